def zX10_in (a1 : Int64) (a2 : Int64) (a3 : Int64) : Int32 :=
  if lg_cmp a1 a2 < 0 then 0 else if 0 < lg_cmp a1 a3 then 0 else 1
theorem zbX10_in (a1 : Int64) (a2 : Int64) (a3 : Int64) : zX10_in a1 a2 a3 = 0 ∨ zX10_in a1 a2 a3 = 1 := by
  unfold zX10_in
  first | exact Or.inl rfl | ((repeat' split) <;> first | exact Or.inl rfl | exact Or.inr rfl)
set_option maxRecDepth 100000 in
set_option maxHeartbeats 4000000 in
theorem mX10_in (a1 : Int64) (a2 : Int64) (a3 : Int64) : fr_MI0 yX10_in cX10_in 6 .boolean 0 0 fr_shM (fun w => [.long a1, .long a2, .long a3]) (fun σ => zX10_in a1 a2 a3) := by
  refine fr_mkI0 (by decide) (fun w => Nat.le_of_ble_eq_true rfl) (fun g w σ hg => ?_)
  show fr_V g w 6 (some (zX10_in a1 a2 a3)) _ 0 [(0, .long a1), (2, .long a2), (4, .long a3)] [] σ
  unfold zX10_in
  refine fr_lload_n hg 0 rfl dX10_in_0 rfl ?_
  refine fr_lload_n hg 1 rfl dX10_in_1 rfl ?_
  refine fr_lcmp hg dX10_in_2 rfl ?_
  refine fr_some_ite ?_
  refine fr_if_lt hg (m := 17) dX10_in_3 (by decide) rfl ?_ ?_
  · refine fr_iconst hg (v := 0) (by decide) dX10_in_17 rfl ?_
    exact fr_iret hg (rty := .boolean) rfl dX10_in_18 (fun h => h)
  · refine fr_lload_n hg 0 rfl dX10_in_6 rfl ?_
    refine fr_lload hg 2 rfl dX10_in_7 rfl ?_
    refine fr_lcmp hg dX10_in_9 rfl ?_
    refine fr_some_ite ?_
    refine fr_if_gt hg (m := 17) dX10_in_10 (by decide) rfl ?_ ?_
    · refine fr_iconst hg (v := 0) (by decide) dX10_in_17 rfl ?_
      exact fr_iret hg (rty := .boolean) rfl dX10_in_18 (fun h => h)
    · refine fr_iconst hg (v := 1) (by decide) dX10_in_13 rfl ?_
      refine fr_goto hg (n := 18) dX10_in_14 (by decide) ?_
      exact fr_iret hg (rty := .boolean) rfl dX10_in_18 (fun h => h)
def zX10_isTwo (a1 : Int32) : Int32 :=
  zX10_in a1.toInt64 0 1
theorem zbX10_isTwo (a1 : Int32) : zX10_isTwo a1 = 0 ∨ zX10_isTwo a1 = 1 := by
  unfold zX10_isTwo
  first | exact zbX10_in a1.toInt64 0 1 | ((repeat' split) <;> first | exact Or.inl rfl | exact Or.inr rfl)
set_option maxRecDepth 100000 in
set_option maxHeartbeats 4000000 in
theorem mX10_isTwo (a1 : Int32) : fr_MI0 yX10_isTwo cX10_isTwo 1 .boolean 1 25 fr_shM (fun w => [.int a1]) (fun σ => zX10_isTwo a1) := by
  refine fr_mkI0 (by decide) (fun w => Nat.le_of_ble_eq_true rfl) (fun g w σ hg => ?_)
  show fr_V g w 1 (some (zX10_isTwo a1)) _ 0 [(0, .int a1)] [] σ
  unfold zX10_isTwo
  refine fr_iload_n hg 0 rfl dX10_isTwo_0 rfl ?_
  refine fr_i2l hg dX10_isTwo_1 rfl ?_
  refine fr_lconst hg (v := 0) (by decide) dX10_isTwo_2 rfl ?_
  refine fr_lconst hg (v := 1) (by decide) dX10_isTwo_3 rfl ?_
  refine fr_ci0 hg (mX10_in a1.toInt64 0 1) (fr_crS hg mo_X10_73 rfl (by decide) (by decide) (Nat.le_of_ble_eq_true rfl) dX10_isTwo_4 rfl) rfl ?_
  exact fr_iret hg (rty := .boolean) (fr_nb (zbX10_in a1.toInt64 0 1)) dX10_isTwo_7 (fun h => h)
noncomputable def zX10_type (σ : fr_St) (a1 : Int32) (a2 : Int32) : Option (Int32 × fr_St) :=
  if zX10_isTwo a1 = 0 then some ((-2), σ) else if zX10_in a2.toInt64 0 255 = 0 then some ((-2), σ) else (fr_al 2 σ 6 a1).bind (fun x1 => (some (if a1 = 0 then 35 else 40) : Option (Int32)).bind (fun t2 => if x1 = t2 then some ((-4), σ) else (fr_al 2 σ 6 a1).bind (fun x3 => (fr_as 80 σ 5 ((40 * a1) + x3) a2).bind (fun σ4 => (fr_al 2 σ4 6 a1).bind (fun x5 => (fr_as 2 σ4 6 a1 (x5 + 1)).bind (fun σ6 => (fr_al 2 σ6 6 a1).bind (fun x7 => some (x7, σ6))))))))
set_option maxRecDepth 100000 in
set_option maxHeartbeats 4000000 in
theorem mX10_type (a1 : Int32) (a2 : Int32) : fr_MI2 yX10_type cX10_type 3 .int 2 45 fr_shM (fun w => [.ref (fr_ad w 0), .int a1, .int a2]) (fun σ => zX10_type σ a1 a2) := by
  refine fr_mkI2 (by decide) (fun w => Nat.le_of_ble_eq_true rfl) (fun g w σ hg => ?_)
  show fr_V g w 3 (zX10_type σ a1 a2) _ 0 [(0, .ref (fr_ad w 0)), (1, .int a1), (2, .int a2)] [] σ
  unfold zX10_type
  refine fr_iload_n hg 1 rfl dX10_type_0 rfl ?_
  refine fr_ci0 hg (mX10_isTwo a1) (fr_crS hg mo_X10_102 rfl (by decide) (by decide) (Nat.le_of_ble_eq_true rfl) dX10_type_1 rfl) rfl ?_
  refine fr_if_eq hg (m := 19) dX10_type_4 (by decide) rfl ?_ ?_
  · refine fr_bipush hg (v := (-2)) (by decide) dX10_type_19 rfl ?_
    exact fr_iret hg (rty := .int) rfl dX10_type_21 (fun h => h)
  · refine fr_iload_n hg 2 rfl dX10_type_7 rfl ?_
    refine fr_i2l hg dX10_type_8 rfl ?_
    refine fr_lconst hg (v := 0) (by decide) dX10_type_9 rfl ?_
    refine fr_ldc2 hg cl_X10_105 dX10_type_10 rfl ?_
    refine fr_ci0 hg (mX10_in a2.toInt64 0 255) (fr_crS hg mo_X10_73 rfl (by decide) (by decide) (Nat.le_of_ble_eq_true rfl) dX10_type_13 rfl) rfl ?_
    refine fr_if_ne hg (m := 22) dX10_type_16 (by decide) rfl ?_ ?_
    · refine fr_aload_n hg 0 rfl dX10_type_22 rfl ?_
      refine fr_getr hg (q := 0) (q' := 6) fo_X10_25 rfl rfl dX10_type_23 rfl ?_
      refine fr_iload_n hg 1 rfl dX10_type_26 rfl ?_
      refine fr_iaload hg (q := 6) rfl dX10_type_27 rfl (fun x1 => ?_)
      refine fr_iload_n hg 1 rfl dX10_type_28 rfl ?_
      refine fr_join (m := 39) (lj := fun (t2 : Int32) => [(0, .ref (fr_ad w 0)), (1, .int a1), (2, .int a2)]) (sj := fun t2 => [.int t2, .int x1]) (wj := fun t2 => σ) ?_ (fun t2 => ?_)
      · refine fr_some_ite ?_
        refine fr_if_ne hg (m := 37) dX10_type_29 (by decide) rfl ?_ ?_
        · refine fr_bipush hg (v := 40) (by decide) dX10_type_37 rfl ?_
          exact fr_leaf [0, 1, 2] rfl (fun h => h)
        · refine fr_bipush hg (v := 35) (by decide) dX10_type_32 rfl ?_
          refine fr_goto hg (n := 39) dX10_type_34 (by decide) ?_
          exact fr_leaf [0, 1, 2] rfl (fun h => h)
      refine fr_icmp_ne hg (m := 45) dX10_type_39 (by decide) rfl ?_ ?_
      · refine fr_aload_n hg 0 rfl dX10_type_45 rfl ?_
        refine fr_getr hg (q := 0) (q' := 5) fo_X10_22 rfl rfl dX10_type_46 rfl ?_
        refine fr_bipush hg (v := 40) (by decide) dX10_type_49 rfl ?_
        refine fr_iload_n hg 1 rfl dX10_type_51 rfl ?_
        refine fr_imul hg dX10_type_52 rfl ?_
        refine fr_aload_n hg 0 rfl dX10_type_53 rfl ?_
        refine fr_getr hg (q := 0) (q' := 6) fo_X10_25 rfl rfl dX10_type_54 rfl ?_
        refine fr_iload_n hg 1 rfl dX10_type_57 rfl ?_
        refine fr_iaload hg (q := 6) rfl dX10_type_58 rfl (fun x3 => ?_)
        refine fr_iadd hg dX10_type_59 rfl ?_
        refine fr_iload_n hg 2 rfl dX10_type_60 rfl ?_
        refine fr_iastore hg (q := 5) rfl dX10_type_61 rfl (fun σ4 => ?_)
        refine fr_aload_n hg 0 rfl dX10_type_62 rfl ?_
        refine fr_getr hg (q := 0) (q' := 6) fo_X10_25 rfl rfl dX10_type_63 rfl ?_
        refine fr_iload_n hg 1 rfl dX10_type_66 rfl ?_
        refine fr_dup2 hg rfl rfl dX10_type_67 rfl ?_
        refine fr_iaload hg (q := 6) rfl dX10_type_68 rfl (fun x5 => ?_)
        refine fr_iconst hg (v := 1) (by decide) dX10_type_69 rfl ?_
        refine fr_iadd hg dX10_type_70 rfl ?_
        refine fr_iastore hg (q := 6) rfl dX10_type_71 rfl (fun σ6 => ?_)
        refine fr_aload_n hg 0 rfl dX10_type_72 rfl ?_
        refine fr_getr hg (q := 0) (q' := 6) fo_X10_25 rfl rfl dX10_type_73 rfl ?_
        refine fr_iload_n hg 1 rfl dX10_type_76 rfl ?_
        refine fr_iaload hg (q := 6) rfl dX10_type_77 rfl (fun x7 => ?_)
        exact fr_iret hg (rty := .int) rfl dX10_type_78 (fun h => h)
      · refine fr_bipush hg (v := (-4)) (by decide) dX10_type_42 rfl ?_
        exact fr_iret hg (rty := .int) rfl dX10_type_44 (fun h => h)
    · refine fr_bipush hg (v := (-2)) (by decide) dX10_type_19 rfl ?_
      exact fr_iret hg (rty := .int) rfl dX10_type_21 (fun h => h)
noncomputable def zX10_wipe (σ : fr_St) (a1 : Int32) : Option (Int32 × fr_St) :=
  if zX10_isTwo a1 = 0 then some ((-2), σ) else (fr_al 2 σ 6 a1).bind (fun x1 => (fr_as 2 σ 6 a1 0).bind (fun σ2 => some (x1, σ2)))
set_option maxRecDepth 100000 in
set_option maxHeartbeats 4000000 in
theorem mX10_wipe (a1 : Int32) : fr_MI2 yX10_wipe cX10_wipe 3 .int 2 45 fr_shM (fun w => [.ref (fr_ad w 0), .int a1]) (fun σ => zX10_wipe σ a1) := by
  refine fr_mkI2 (by decide) (fun w => Nat.le_of_ble_eq_true rfl) (fun g w σ hg => ?_)
  show fr_V g w 3 (zX10_wipe σ a1) _ 0 [(0, .ref (fr_ad w 0)), (1, .int a1)] [] σ
  unfold zX10_wipe
  refine fr_iload_n hg 1 rfl dX10_wipe_0 rfl ?_
  refine fr_ci0 hg (mX10_isTwo a1) (fr_crS hg mo_X10_102 rfl (by decide) (by decide) (Nat.le_of_ble_eq_true rfl) dX10_wipe_1 rfl) rfl ?_
  refine fr_if_ne hg (m := 10) dX10_wipe_4 (by decide) rfl ?_ ?_
  · refine fr_aload_n hg 0 rfl dX10_wipe_10 rfl ?_
    refine fr_getr hg (q := 0) (q' := 6) fo_X10_25 rfl rfl dX10_wipe_11 rfl ?_
    refine fr_iload_n hg 1 rfl dX10_wipe_14 rfl ?_
    refine fr_iaload hg (q := 6) rfl dX10_wipe_15 rfl (fun x1 => ?_)
    refine fr_istore_n hg (ls' := [(0, .ref (fr_ad w 0)), (1, .int a1), (2, .int x1)]) dX10_wipe_16 rfl (by decide) rfl rfl ?_
    refine fr_aload_n hg 0 rfl dX10_wipe_17 rfl ?_
    refine fr_getr hg (q := 0) (q' := 6) fo_X10_25 rfl rfl dX10_wipe_18 rfl ?_
    refine fr_iload_n hg 1 rfl dX10_wipe_21 rfl ?_
    refine fr_iconst hg (v := 0) (by decide) dX10_wipe_22 rfl ?_
    refine fr_iastore hg (q := 6) rfl dX10_wipe_23 rfl (fun σ2 => ?_)
    refine fr_iload_n hg 2 rfl dX10_wipe_24 rfl ?_
    exact fr_iret hg (rty := .int) rfl dX10_wipe_25 (fun h => h)
  · refine fr_bipush hg (v := (-2)) (by decide) dX10_wipe_7 rfl ?_
    exact fr_iret hg (rty := .int) rfl dX10_wipe_9 (fun h => h)
noncomputable def zX10_undo (σ : fr_St) (a1 : Int32) : Option (Int32 × fr_St) :=
  if zX10_isTwo a1 = 0 then some ((-2), σ) else (fr_al 2 σ 6 a1).bind (fun x1 => if x1 = 0 then some ((-3), σ) else (fr_al 2 σ 6 a1).bind (fun x2 => (fr_as 2 σ 6 a1 (x2 - 1)).bind (fun σ3 => (fr_al 2 σ3 6 a1).bind (fun x4 => some (x4, σ3)))))
set_option maxRecDepth 100000 in
set_option maxHeartbeats 4000000 in
theorem mX10_undo (a1 : Int32) : fr_MI2 yX10_undo cX10_undo 2 .int 2 45 fr_shM (fun w => [.ref (fr_ad w 0), .int a1]) (fun σ => zX10_undo σ a1) := by
  refine fr_mkI2 (by decide) (fun w => Nat.le_of_ble_eq_true rfl) (fun g w σ hg => ?_)
  show fr_V g w 2 (zX10_undo σ a1) _ 0 [(0, .ref (fr_ad w 0)), (1, .int a1)] [] σ
  unfold zX10_undo
  refine fr_iload_n hg 1 rfl dX10_undo_0 rfl ?_
  refine fr_ci0 hg (mX10_isTwo a1) (fr_crS hg mo_X10_102 rfl (by decide) (by decide) (Nat.le_of_ble_eq_true rfl) dX10_undo_1 rfl) rfl ?_
  refine fr_if_ne hg (m := 10) dX10_undo_4 (by decide) rfl ?_ ?_
  · refine fr_aload_n hg 0 rfl dX10_undo_10 rfl ?_
    refine fr_getr hg (q := 0) (q' := 6) fo_X10_25 rfl rfl dX10_undo_11 rfl ?_
    refine fr_iload_n hg 1 rfl dX10_undo_14 rfl ?_
    refine fr_iaload hg (q := 6) rfl dX10_undo_15 rfl (fun x1 => ?_)
    refine fr_if_ne hg (m := 22) dX10_undo_16 (by decide) rfl ?_ ?_
    · refine fr_aload_n hg 0 rfl dX10_undo_22 rfl ?_
      refine fr_getr hg (q := 0) (q' := 6) fo_X10_25 rfl rfl dX10_undo_23 rfl ?_
      refine fr_iload_n hg 1 rfl dX10_undo_26 rfl ?_
      refine fr_dup2 hg rfl rfl dX10_undo_27 rfl ?_
      refine fr_iaload hg (q := 6) rfl dX10_undo_28 rfl (fun x2 => ?_)
      refine fr_iconst hg (v := 1) (by decide) dX10_undo_29 rfl ?_
      refine fr_isub hg dX10_undo_30 rfl ?_
      refine fr_iastore hg (q := 6) rfl dX10_undo_31 rfl (fun σ3 => ?_)
      refine fr_aload_n hg 0 rfl dX10_undo_32 rfl ?_
      refine fr_getr hg (q := 0) (q' := 6) fo_X10_25 rfl rfl dX10_undo_33 rfl ?_
      refine fr_iload_n hg 1 rfl dX10_undo_36 rfl ?_
      refine fr_iaload hg (q := 6) rfl dX10_undo_37 rfl (fun x4 => ?_)
      exact fr_iret hg (rty := .int) rfl dX10_undo_38 (fun h => h)
    · refine fr_bipush hg (v := (-3)) (by decide) dX10_undo_19 rfl ?_
      exact fr_iret hg (rty := .int) rfl dX10_undo_21 (fun h => h)
  · refine fr_bipush hg (v := (-2)) (by decide) dX10_undo_7 rfl ?_
    exact fr_iret hg (rty := .int) rfl dX10_undo_9 (fun h => h)
noncomputable def zX10_clears_L2 (v1 : Int32) (σ : fr_St) : Option ((Int32 × fr_St) ⊕ (fr_St)) :=
  if 32 ≤ v1 then some (.inr σ) else (fr_as 32 σ 7 v1 0).bind (fun σ1 => (fr_as 32 σ1 8 v1 0).bind (fun σ2 => some (.inl (v1 + 1, σ2))))
noncomputable def zX10_clears (σ : fr_St)  : Option (fr_St) :=
  (fr_loop (fun (b1 : Int32 × fr_St) => zX10_clears_L2 b1.1 b1.2) fr_fu (0, σ)).bind (fun (c2 : fr_St) => some (fr_put (fr_put (fr_put c2 0 11 0) 0 12 0) 0 13 0))
set_option maxRecDepth 100000 in
set_option maxHeartbeats 4000000 in
theorem mX10_clears  : fr_MV2 yX10_clears cX10_clears 2 0 0 fr_shM (fun w => [.ref (fr_ad w 0)]) (fun σ => zX10_clears σ) := by
  refine fr_mkV2 (by decide) (fun w => Nat.le_of_ble_eq_true rfl) (fun g w σ hg => ?_)
  show fr_V g w 2 (zX10_clears σ) _ 0 [(0, .ref (fr_ad w 0))] [] σ
  unfold zX10_clears
  refine fr_iconst hg (v := 0) (by decide) dX10_clears_0 rfl ?_
  refine fr_istore_n hg (ls' := [(0, .ref (fr_ad w 0)), (1, .int 0)]) dX10_clears_1 rfl (by decide) rfl rfl ?_
  refine fr_lp (fun (b1 : Int32 × fr_St) => [(0, .ref (fr_ad w 0)), (1, .int b1.1)]) (fun b1 => b1.2) 28 (fun (c2 : fr_St) => [(0, .ref (fr_ad w 0))]) (fun c2 => c2) [0, 1] rfl rfl (fun b1 => ?_) (fun c2 => ?_)
  · show fr_V g w _ (zX10_clears_L2 b1.1 b1.2) _ _ _ _ _
    unfold zX10_clears_L2
    refine fr_iload_n hg 1 rfl dX10_clears_2 rfl ?_
    refine fr_bipush hg (v := 32) (by decide) dX10_clears_3 rfl ?_
    refine fr_icmp_ge hg (m := 28) dX10_clears_5 (by decide) rfl ?_ ?_
    · exact fr_leaf [0] rfl (fun h => h)
    · refine fr_aload_n hg 0 rfl dX10_clears_8 rfl ?_
      refine fr_getr hg (q := 0) (q' := 7) fo_X10_28 rfl rfl dX10_clears_9 rfl ?_
      refine fr_iload_n hg 1 rfl dX10_clears_12 rfl ?_
      refine fr_iconst hg (v := 0) (by decide) dX10_clears_13 rfl ?_
      refine fr_bastore hg (q := 7) rfl rfl dX10_clears_14 rfl (fun σ3 => ?_)
      refine fr_aload_n hg 0 rfl dX10_clears_15 rfl ?_
      refine fr_getr hg (q := 0) (q' := 8) fo_X10_32 rfl rfl dX10_clears_16 rfl ?_
      refine fr_iload_n hg 1 rfl dX10_clears_19 rfl ?_
      refine fr_iconst hg (v := 0) (by decide) dX10_clears_20 rfl ?_
      refine fr_iastore hg (q := 8) rfl dX10_clears_21 rfl (fun σ4 => ?_)
      refine fr_iinc hg 1 (v := b1.1 + 1) (ls' := [(0, .ref (fr_ad w 0)), (1, .int (b1.1 + 1))]) dX10_clears_22 rfl rfl (by decide) rfl rfl ?_
      refine fr_goto hg (n := 2) dX10_clears_25 (by decide) ?_
      exact fr_leaf [0, 1] rfl (fun h => h)
  refine fr_aload_n hg 0 rfl dX10_clears_28 rfl ?_
  refine fr_iconst hg (v := 0) (by decide) dX10_clears_29 rfl ?_
  refine fr_puti hg (q := 0) fp_X10_107 rfl rfl rfl rfl dX10_clears_30 rfl ?_
  refine fr_aload_n hg 0 rfl dX10_clears_33 rfl ?_
  refine fr_iconst hg (v := 0) (by decide) dX10_clears_34 rfl ?_
  refine fr_puti hg (q := 0) fp_X10_110 rfl rfl rfl rfl dX10_clears_35 rfl ?_
  refine fr_aload_n hg 0 rfl dX10_clears_38 rfl ?_
  refine fr_iconst hg (v := 0) (by decide) dX10_clears_39 rfl ?_
  refine fr_puti hg (q := 0) fp_X10_113 rfl rfl rfl rfl dX10_clears_40 rfl ?_
  exact fr_vret hg dX10_clears_43 (fun h => h)
noncomputable def zX10_readsRow_L19 (k2 : Int32) (v1 : Int32) (σ : fr_St) : Option ((Int32 × fr_St) ⊕ ((Int32 × fr_St) ⊕ (Int32 × fr_St))) :=
  (fr_al 2 σ 6 0).bind (fun x1 => if x1 ≤ σ 0 7 then some (.inr (.inr (v1, σ))) else (fr_al 80 σ 5 (σ 0 7)).bind (fun x2 => if x2 = 59 then some (.inr (.inr (v1, σ))) else (fr_al 80 σ 5 (σ 0 7)).bind (fun x3 => if σ 0 13 = 4 then some (.inr (.inl (0, σ))) else if v1 = k2 then some (.inr (.inl (0, σ))) else if zX10_in ((x3 - 48).toInt64) 0 9 = 0 then some (.inr (.inl (0, σ))) else (fr_as 32 σ 7 ((8 * (σ 0 13)) + v1) 1).bind (fun σ4 => (fr_as 32 σ4 8 ((8 * (σ4 0 13)) + v1) (x3 - 48)).bind (fun σ5 => some (.inl (v1 + 1, (fr_put (fr_put σ5 0 11 ((σ5 0 11) + 1)) 0 7 (((fr_put σ5 0 11 ((σ5 0 11) + 1)) 0 7) + 1)))))))))
noncomputable def zX10_readsRow (σ : fr_St)  : Option (Int32 × fr_St) :=
  (some (if σ 0 13 = 0 then 8 else (σ 0 12)) : Option (Int32)).bind (fun t1 => (fr_loop (fun (b2 : Int32 × fr_St) => zX10_readsRow_L19 t1 b2.1 b2.2) fr_fu (0, σ)).bind (fr_ei (fun r => some r) (fun (c3 : Int32 × fr_St) => if c3.1 = 0 then some (0, c3.2) else if c3.2 0 13 ≤ 0 then some (1, (fr_put (fr_put c3.2 0 12 c3.1) 0 13 (((fr_put c3.2 0 12 c3.1) 0 13) + 1))) else if c3.2 0 12 ≤ c3.1 then some (1, (fr_put (fr_put c3.2 0 12 c3.1) 0 13 (((fr_put c3.2 0 12 c3.1) 0 13) + 1))) else some (0, c3.2))))
set_option maxRecDepth 100000 in
set_option maxHeartbeats 4000000 in
theorem mX10_readsRow  : fr_MI2 yX10_readsRow cX10_readsRow 4 .boolean 1 25 fr_shM (fun w => [.ref (fr_ad w 0)]) (fun σ => zX10_readsRow σ) := by
  refine fr_mkI2 (by decide) (fun w => Nat.le_of_ble_eq_true rfl) (fun g w σ hg => ?_)
  show fr_V g w 4 (zX10_readsRow σ) _ 0 [(0, .ref (fr_ad w 0))] [] σ
  unfold zX10_readsRow
  refine fr_iconst hg (v := 0) (by decide) dX10_readsRow_0 rfl ?_
  refine fr_istore_n hg (ls' := [(0, .ref (fr_ad w 0)), (1, .int 0)]) dX10_readsRow_1 rfl (by decide) rfl rfl ?_
  refine fr_aload_n hg 0 rfl dX10_readsRow_2 rfl ?_
  refine fr_geti hg (q := 0) fo_X10_113 rfl rfl dX10_readsRow_3 rfl ?_
  refine fr_join (m := 18) (lj := fun (t1 : Int32) => [(0, .ref (fr_ad w 0)), (1, .int 0)]) (sj := fun t1 => [.int t1]) (wj := fun t1 => σ) ?_ (fun t1 => ?_)
  · refine fr_some_ite ?_
    refine fr_if_ne hg (m := 14) dX10_readsRow_6 (by decide) rfl ?_ ?_
    · refine fr_aload_n hg 0 rfl dX10_readsRow_14 rfl ?_
      refine fr_geti hg (q := 0) fo_X10_110 rfl rfl dX10_readsRow_15 rfl ?_
      exact fr_leaf [0, 1] rfl (fun h => h)
    · refine fr_bipush hg (v := 8) (by decide) dX10_readsRow_9 rfl ?_
      refine fr_goto hg (n := 18) dX10_readsRow_11 (by decide) ?_
      exact fr_leaf [0, 1] rfl (fun h => h)
  refine fr_istore_n hg (ls' := [(0, .ref (fr_ad w 0)), (1, .int 0), (2, .int t1)]) dX10_readsRow_18 rfl (by decide) rfl rfl ?_
  refine fr_lpr (fun (b2 : Int32 × fr_St) => [(0, .ref (fr_ad w 0)), (1, .int b2.1), (2, .int t1)]) (fun b2 => b2.2) 142 (fun (c3 : Int32 × fr_St) => [(0, .ref (fr_ad w 0)), (1, .int c3.1)]) (fun c3 => c3.2) [0, 1, 2] rfl rfl (fun r => fr_RI g w .boolean r.1 r.2) (fun r t h1 h2 => ?_) (fun b2 => ?_) (fun c3 => ?_)
  · cases h1; exact h2
  · show fr_V g w _ (zX10_readsRow_L19 t1 b2.1 b2.2) _ _ _ _ _
    unfold zX10_readsRow_L19
    refine fr_aload_n hg 0 rfl dX10_readsRow_19 rfl ?_
    refine fr_geti hg (q := 0) fo_X10_116 rfl rfl dX10_readsRow_20 rfl ?_
    refine fr_aload_n hg 0 rfl dX10_readsRow_23 rfl ?_
    refine fr_getr hg (q := 0) (q' := 6) fo_X10_25 rfl rfl dX10_readsRow_24 rfl ?_
    refine fr_iconst hg (v := 0) (by decide) dX10_readsRow_27 rfl ?_
    refine fr_iaload hg (q := 6) rfl dX10_readsRow_28 rfl (fun x4 => ?_)
    refine fr_icmp_ge hg (m := 142) dX10_readsRow_29 (by decide) rfl ?_ ?_
    · exact fr_leaf [0, 1] rfl (fun h => h)
    · refine fr_aload_n hg 0 rfl dX10_readsRow_32 rfl ?_
      refine fr_getr hg (q := 0) (q' := 5) fo_X10_22 rfl rfl dX10_readsRow_33 rfl ?_
      refine fr_aload_n hg 0 rfl dX10_readsRow_36 rfl ?_
      refine fr_geti hg (q := 0) fo_X10_116 rfl rfl dX10_readsRow_37 rfl ?_
      refine fr_iaload hg (q := 5) rfl dX10_readsRow_40 rfl (fun x5 => ?_)
      refine fr_bipush hg (v := 59) (by decide) dX10_readsRow_41 rfl ?_
      refine fr_icmp_eq hg (m := 142) dX10_readsRow_43 (by decide) rfl ?_ ?_
      · exact fr_leaf [0, 1] rfl (fun h => h)
      · refine fr_aload_n hg 0 rfl dX10_readsRow_46 rfl ?_
        refine fr_getr hg (q := 0) (q' := 5) fo_X10_22 rfl rfl dX10_readsRow_47 rfl ?_
        refine fr_aload_n hg 0 rfl dX10_readsRow_50 rfl ?_
        refine fr_geti hg (q := 0) fo_X10_116 rfl rfl dX10_readsRow_51 rfl ?_
        refine fr_iaload hg (q := 5) rfl dX10_readsRow_54 rfl (fun x6 => ?_)
        refine fr_bipush hg (v := 48) (by decide) dX10_readsRow_55 rfl ?_
        refine fr_isub hg dX10_readsRow_57 rfl ?_
        refine fr_istore_n hg (ls' := [(0, .ref (fr_ad w 0)), (1, .int b2.1), (2, .int t1), (3, .int (x6 - 48))]) dX10_readsRow_58 rfl (by decide) rfl rfl ?_
        refine fr_aload_n hg 0 rfl dX10_readsRow_59 rfl ?_
        refine fr_geti hg (q := 0) fo_X10_113 rfl rfl dX10_readsRow_60 rfl ?_
        refine fr_iconst hg (v := 4) (by decide) dX10_readsRow_63 rfl ?_
        refine fr_icmp_eq hg (m := 84) dX10_readsRow_64 (by decide) rfl ?_ ?_
        · refine fr_iconst hg (v := 0) (by decide) dX10_readsRow_84 rfl ?_
          exact fr_iret hg (rty := .boolean) rfl dX10_readsRow_85 (fun h => h)
        · refine fr_iload_n hg 1 rfl dX10_readsRow_67 rfl ?_
          refine fr_iload_n hg 2 rfl dX10_readsRow_68 rfl ?_
          refine fr_icmp_eq hg (m := 84) dX10_readsRow_69 (by decide) rfl ?_ ?_
          · refine fr_iconst hg (v := 0) (by decide) dX10_readsRow_84 rfl ?_
            exact fr_iret hg (rty := .boolean) rfl dX10_readsRow_85 (fun h => h)
          · refine fr_iload_n hg 3 rfl dX10_readsRow_72 rfl ?_
            refine fr_i2l hg dX10_readsRow_73 rfl ?_
            refine fr_lconst hg (v := 0) (by decide) dX10_readsRow_74 rfl ?_
            refine fr_ldc2 hg cl_X10_119 dX10_readsRow_75 rfl ?_
            refine fr_ci0 hg (mX10_in ((x6 - 48).toInt64) 0 9) (fr_crS hg mo_X10_73 rfl (by decide) (by decide) (Nat.le_of_ble_eq_true rfl) dX10_readsRow_78 rfl) rfl ?_
            refine fr_if_ne hg (m := 86) dX10_readsRow_81 (by decide) rfl ?_ ?_
            · refine fr_aload_n hg 0 rfl dX10_readsRow_86 rfl ?_
              refine fr_getr hg (q := 0) (q' := 7) fo_X10_28 rfl rfl dX10_readsRow_87 rfl ?_
              refine fr_bipush hg (v := 8) (by decide) dX10_readsRow_90 rfl ?_
              refine fr_aload_n hg 0 rfl dX10_readsRow_92 rfl ?_
              refine fr_geti hg (q := 0) fo_X10_113 rfl rfl dX10_readsRow_93 rfl ?_
              refine fr_imul hg dX10_readsRow_96 rfl ?_
              refine fr_iload_n hg 1 rfl dX10_readsRow_97 rfl ?_
              refine fr_iadd hg dX10_readsRow_98 rfl ?_
              refine fr_iconst hg (v := 1) (by decide) dX10_readsRow_99 rfl ?_
              refine fr_bastore hg (q := 7) rfl rfl dX10_readsRow_100 rfl (fun σ7 => ?_)
              refine fr_aload_n hg 0 rfl dX10_readsRow_101 rfl ?_
              refine fr_getr hg (q := 0) (q' := 8) fo_X10_32 rfl rfl dX10_readsRow_102 rfl ?_
              refine fr_bipush hg (v := 8) (by decide) dX10_readsRow_105 rfl ?_
              refine fr_aload_n hg 0 rfl dX10_readsRow_107 rfl ?_
              refine fr_geti hg (q := 0) fo_X10_113 rfl rfl dX10_readsRow_108 rfl ?_
              refine fr_imul hg dX10_readsRow_111 rfl ?_
              refine fr_iload_n hg 1 rfl dX10_readsRow_112 rfl ?_
              refine fr_iadd hg dX10_readsRow_113 rfl ?_
              refine fr_iload_n hg 3 rfl dX10_readsRow_114 rfl ?_
              refine fr_iastore hg (q := 8) rfl dX10_readsRow_115 rfl (fun σ8 => ?_)
              refine fr_iinc hg 1 (v := b2.1 + 1) (ls' := [(0, .ref (fr_ad w 0)), (1, .int (b2.1 + 1)), (2, .int t1), (3, .int (x6 - 48))]) dX10_readsRow_116 rfl rfl (by decide) rfl rfl ?_
              refine fr_aload_n hg 0 rfl dX10_readsRow_119 rfl ?_
              refine fr_dup hg rfl dX10_readsRow_120 rfl ?_
              refine fr_geti hg (q := 0) fo_X10_107 rfl rfl dX10_readsRow_121 rfl ?_
              refine fr_iconst hg (v := 1) (by decide) dX10_readsRow_124 rfl ?_
              refine fr_iadd hg dX10_readsRow_125 rfl ?_
              refine fr_puti hg (q := 0) fp_X10_107 rfl rfl rfl rfl dX10_readsRow_126 rfl ?_
              refine fr_aload_n hg 0 rfl dX10_readsRow_129 rfl ?_
              refine fr_dup hg rfl dX10_readsRow_130 rfl ?_
              refine fr_geti hg (q := 0) fo_X10_116 rfl rfl dX10_readsRow_131 rfl ?_
              refine fr_iconst hg (v := 1) (by decide) dX10_readsRow_134 rfl ?_
              refine fr_iadd hg dX10_readsRow_135 rfl ?_
              refine fr_puti hg (q := 0) fp_X10_116 rfl rfl rfl rfl dX10_readsRow_136 rfl ?_
              refine fr_goto hg (n := 19) dX10_readsRow_139 (by decide) ?_
              exact fr_leaf [0, 1, 2] rfl (fun h => h)
            · refine fr_iconst hg (v := 0) (by decide) dX10_readsRow_84 rfl ?_
              exact fr_iret hg (rty := .boolean) rfl dX10_readsRow_85 (fun h => h)
  refine fr_iload_n hg 1 rfl dX10_readsRow_142 rfl ?_
  refine fr_if_eq hg (m := 161) dX10_readsRow_143 (by decide) rfl ?_ ?_
  · refine fr_iconst hg (v := 0) (by decide) dX10_readsRow_161 rfl ?_
    exact fr_iret hg (rty := .boolean) rfl dX10_readsRow_162 (fun h => h)
  · refine fr_aload_n hg 0 rfl dX10_readsRow_146 rfl ?_
    refine fr_geti hg (q := 0) fo_X10_113 rfl rfl dX10_readsRow_147 rfl ?_
    refine fr_if_le hg (m := 163) dX10_readsRow_150 (by decide) rfl ?_ ?_
    · refine fr_aload_n hg 0 rfl dX10_readsRow_163 rfl ?_
      refine fr_iload_n hg 1 rfl dX10_readsRow_164 rfl ?_
      refine fr_puti hg (q := 0) fp_X10_110 rfl rfl rfl rfl dX10_readsRow_165 rfl ?_
      refine fr_aload_n hg 0 rfl dX10_readsRow_168 rfl ?_
      refine fr_dup hg rfl dX10_readsRow_169 rfl ?_
      refine fr_geti hg (q := 0) fo_X10_113 rfl rfl dX10_readsRow_170 rfl ?_
      refine fr_iconst hg (v := 1) (by decide) dX10_readsRow_173 rfl ?_
      refine fr_iadd hg dX10_readsRow_174 rfl ?_
      refine fr_puti hg (q := 0) fp_X10_113 rfl rfl rfl rfl dX10_readsRow_175 rfl ?_
      refine fr_iconst hg (v := 1) (by decide) dX10_readsRow_178 rfl ?_
      exact fr_iret hg (rty := .boolean) rfl dX10_readsRow_179 (fun h => h)
    · refine fr_iload_n hg 1 rfl dX10_readsRow_153 rfl ?_
      refine fr_aload_n hg 0 rfl dX10_readsRow_154 rfl ?_
      refine fr_geti hg (q := 0) fo_X10_110 rfl rfl dX10_readsRow_155 rfl ?_
      refine fr_icmp_ge hg (m := 163) dX10_readsRow_158 (by decide) rfl ?_ ?_
      · refine fr_aload_n hg 0 rfl dX10_readsRow_163 rfl ?_
        refine fr_iload_n hg 1 rfl dX10_readsRow_164 rfl ?_
        refine fr_puti hg (q := 0) fp_X10_110 rfl rfl rfl rfl dX10_readsRow_165 rfl ?_
        refine fr_aload_n hg 0 rfl dX10_readsRow_168 rfl ?_
        refine fr_dup hg rfl dX10_readsRow_169 rfl ?_
        refine fr_geti hg (q := 0) fo_X10_113 rfl rfl dX10_readsRow_170 rfl ?_
        refine fr_iconst hg (v := 1) (by decide) dX10_readsRow_173 rfl ?_
        refine fr_iadd hg dX10_readsRow_174 rfl ?_
        refine fr_puti hg (q := 0) fp_X10_113 rfl rfl rfl rfl dX10_readsRow_175 rfl ?_
        refine fr_iconst hg (v := 1) (by decide) dX10_readsRow_178 rfl ?_
        exact fr_iret hg (rty := .boolean) rfl dX10_readsRow_179 (fun h => h)
      · refine fr_iconst hg (v := 0) (by decide) dX10_readsRow_161 rfl ?_
        exact fr_iret hg (rty := .boolean) rfl dX10_readsRow_162 (fun h => h)
noncomputable def zX10_readsPane_L24 (v1 : Int32) (σ : fr_St) : Option ((Int32 × fr_St) ⊕ ((Int32 × fr_St) ⊕ (fr_St))) :=
  if v1 = 0 then some (.inr (.inr σ)) else (zX10_readsRow σ).bind (fun p2 => if p2.1 = 0 then (zX10_clears p2.2).bind (fun σ5 => some (.inr (.inl (σ5 0 7, σ5)))) else (fr_al 2 p2.2 6 0).bind (fun x3 => (some (if x3 ≤ p2.2 0 7 then 0 else 1) : Option (Int32)).bind (fun t4 => if t4 = 0 then some (.inl (t4, (fr_put p2.2 0 7 ((p2.2 0 7) + 0)))) else some (.inl (t4, (fr_put p2.2 0 7 ((p2.2 0 7) + 1)))))))
noncomputable def zX10_readsPane (σ : fr_St)  : Option (Int32 × fr_St) :=
  (zX10_clears σ).bind (fun σ1 => (fr_al 2 (fr_put σ1 0 7 0) 6 0).bind (fun x2 => (some (if x2 ≤ 0 then 0 else 1) : Option (Int32)).bind (fun t3 => (fr_loop (fun (b4 : Int32 × fr_St) => zX10_readsPane_L24 b4.1 b4.2) fr_fu (t3, (fr_put σ1 0 7 0))).bind (fr_ei (fun r => some r) (fun (c5 : fr_St) => some ((-1), c5))))))
set_option maxRecDepth 100000 in
set_option maxHeartbeats 4000000 in
theorem mX10_readsPane  : fr_MI2 yX10_readsPane cX10_readsPane 2 .int 2 48 fr_shM (fun w => [.ref (fr_ad w 0)]) (fun σ => zX10_readsPane σ) := by
  refine fr_mkI2 (by decide) (fun w => Nat.le_of_ble_eq_true rfl) (fun g w σ hg => ?_)
  show fr_V g w 2 (zX10_readsPane σ) _ 0 [(0, .ref (fr_ad w 0))] [] σ
  unfold zX10_readsPane
  refine fr_aload_n hg 0 rfl dX10_readsPane_0 rfl ?_
  refine fr_cv2 hg mX10_clears (fr_crV hg (q := 0) mo_X10_121 rfl ⟨_, _, rfl⟩ rfl (by decide) (by decide) (Nat.le_of_ble_eq_true rfl) dX10_readsPane_1 rfl) rfl (fun σ1 => ?_)
  refine fr_aload_n hg 0 rfl dX10_readsPane_4 rfl ?_
  refine fr_iconst hg (v := 0) (by decide) dX10_readsPane_5 rfl ?_
  refine fr_puti hg (q := 0) fp_X10_116 rfl rfl rfl rfl dX10_readsPane_6 rfl ?_
  refine fr_aload_n hg 0 rfl dX10_readsPane_9 rfl ?_
  refine fr_getr hg (q := 0) (q' := 6) fo_X10_25 rfl rfl dX10_readsPane_10 rfl ?_
  refine fr_iconst hg (v := 0) (by decide) dX10_readsPane_13 rfl ?_
  refine fr_iaload hg (q := 6) rfl dX10_readsPane_14 rfl (fun x2 => ?_)
  refine fr_join (m := 23) (lj := fun (t3 : Int32) => [(0, .ref (fr_ad w 0))]) (sj := fun t3 => [.int t3]) (wj := fun t3 => (fr_put σ1 0 7 0)) ?_ (fun t3 => ?_)
  · refine fr_some_ite ?_
    refine fr_if_le hg (m := 22) dX10_readsPane_15 (by decide) rfl ?_ ?_
    · refine fr_iconst hg (v := 0) (by decide) dX10_readsPane_22 rfl ?_
      exact fr_leaf [0] rfl (fun h => h)
    · refine fr_iconst hg (v := 1) (by decide) dX10_readsPane_18 rfl ?_
      refine fr_goto hg (n := 23) dX10_readsPane_19 (by decide) ?_
      exact fr_leaf [0] rfl (fun h => h)
  refine fr_istore_n hg (ls' := [(0, .ref (fr_ad w 0)), (1, .int t3)]) dX10_readsPane_23 rfl (by decide) rfl rfl ?_
  refine fr_lpr (fun (b4 : Int32 × fr_St) => [(0, .ref (fr_ad w 0)), (1, .int b4.1)]) (fun b4 => b4.2) 84 (fun (c5 : fr_St) => []) (fun c5 => c5) [0, 1] rfl rfl (fun r => fr_RI g w .int r.1 r.2) (fun r t h1 h2 => ?_) (fun b4 => ?_) (fun c5 => ?_)
  · cases h1; exact h2
  · show fr_V g w _ (zX10_readsPane_L24 b4.1 b4.2) _ _ _ _ _
    unfold zX10_readsPane_L24
    refine fr_iload_n hg 1 rfl dX10_readsPane_24 rfl ?_
    refine fr_if_eq hg (m := 84) dX10_readsPane_25 (by decide) rfl ?_ ?_
    · exact fr_leaf [] rfl (fun h => h)
    · refine fr_aload_n hg 0 rfl dX10_readsPane_28 rfl ?_
      refine fr_ci2 hg mX10_readsRow (fr_crV hg (q := 0) mo_X10_124 rfl ⟨_, _, rfl⟩ rfl (by decide) (by decide) (Nat.le_of_ble_eq_true rfl) dX10_readsPane_29 rfl) rfl (fun p7 => ?_)
      refine fr_if_ne hg (m := 44) dX10_readsPane_32 (by decide) rfl ?_ ?_
      · refine fr_aload_n hg 0 rfl dX10_readsPane_44 rfl ?_
        refine fr_geti hg (q := 0) fo_X10_116 rfl rfl dX10_readsPane_45 rfl ?_
        refine fr_aload_n hg 0 rfl dX10_readsPane_48 rfl ?_
        refine fr_getr hg (q := 0) (q' := 6) fo_X10_25 rfl rfl dX10_readsPane_49 rfl ?_
        refine fr_iconst hg (v := 0) (by decide) dX10_readsPane_52 rfl ?_
        refine fr_iaload hg (q := 6) rfl dX10_readsPane_53 rfl (fun x8 => ?_)
        refine fr_join (m := 62) (lj := fun (t9 : Int32) => [(0, .ref (fr_ad w 0))]) (sj := fun t9 => [.int t9]) (wj := fun t9 => p7.2) ?_ (fun t9 => ?_)
        · refine fr_some_ite ?_
          refine fr_icmp_ge hg (m := 61) dX10_readsPane_54 (by decide) rfl ?_ ?_
          · refine fr_iconst hg (v := 0) (by decide) dX10_readsPane_61 rfl ?_
            exact fr_leaf [0] rfl (fun h => h)
          · refine fr_iconst hg (v := 1) (by decide) dX10_readsPane_57 rfl ?_
            refine fr_goto hg (n := 62) dX10_readsPane_58 (by decide) ?_
            exact fr_leaf [0] rfl (fun h => h)
        refine fr_istore_n hg (ls' := [(0, .ref (fr_ad w 0)), (1, .int t9)]) dX10_readsPane_62 rfl (by decide) rfl rfl ?_
        refine fr_aload_n hg 0 rfl dX10_readsPane_63 rfl ?_
        refine fr_dup hg rfl dX10_readsPane_64 rfl ?_
        refine fr_geti hg (q := 0) fo_X10_116 rfl rfl dX10_readsPane_65 rfl ?_
        refine fr_iload_n hg 1 rfl dX10_readsPane_68 rfl ?_
        refine fr_if_eq hg (m := 76) dX10_readsPane_69 (by decide) rfl ?_ ?_
        · refine fr_iconst hg (v := 0) (by decide) dX10_readsPane_76 rfl ?_
          refine fr_iadd hg dX10_readsPane_77 rfl ?_
          refine fr_puti hg (q := 0) fp_X10_116 rfl rfl rfl rfl dX10_readsPane_78 rfl ?_
          refine fr_goto hg (n := 24) dX10_readsPane_81 (by decide) ?_
          exact fr_leaf [0, 1] rfl (fun h => h)
        · refine fr_iconst hg (v := 1) (by decide) dX10_readsPane_72 rfl ?_
          refine fr_goto hg (n := 77) dX10_readsPane_73 (by decide) ?_
          refine fr_iadd hg dX10_readsPane_77 rfl ?_
          refine fr_puti hg (q := 0) fp_X10_116 rfl rfl rfl rfl dX10_readsPane_78 rfl ?_
          refine fr_goto hg (n := 24) dX10_readsPane_81 (by decide) ?_
          exact fr_leaf [0, 1] rfl (fun h => h)
      · refine fr_aload_n hg 0 rfl dX10_readsPane_35 rfl ?_
        refine fr_cv2 hg mX10_clears (fr_crV hg (q := 0) mo_X10_121 rfl ⟨_, _, rfl⟩ rfl (by decide) (by decide) (Nat.le_of_ble_eq_true rfl) dX10_readsPane_36 rfl) rfl (fun σ10 => ?_)
        refine fr_aload_n hg 0 rfl dX10_readsPane_39 rfl ?_
        refine fr_geti hg (q := 0) fo_X10_116 rfl rfl dX10_readsPane_40 rfl ?_
        exact fr_iret hg (rty := .int) rfl dX10_readsPane_43 (fun h => h)
  refine fr_iconst hg (v := (-1)) (by decide) dX10_readsPane_84 rfl ?_
  exact fr_iret hg (rty := .int) rfl dX10_readsPane_85 (fun h => h)
def zX10_kindOf (a1 : Int32) : Int32 :=
  if a1 = 46 then 0 else if a1 = 108 then 1 else if a1 = 114 then 2 else if a1 = 115 then 3 else if a1 = 120 then 4 else (-1)
set_option maxRecDepth 100000 in
set_option maxHeartbeats 4000000 in
theorem mX10_kindOf (a1 : Int32) : fr_MI0 yX10_kindOf cX10_kindOf 1 .int 0 0 fr_shM (fun w => [.int a1]) (fun σ => zX10_kindOf a1) := by
  refine fr_mkI0 (by decide) (fun w => Nat.le_of_ble_eq_true rfl) (fun g w σ hg => ?_)
  show fr_V g w 1 (some (zX10_kindOf a1)) _ 0 [(0, .int a1)] [] σ
  unfold zX10_kindOf
  refine fr_iload_n hg 0 rfl dX10_kindOf_0 rfl ?_
  refine fr_bipush hg (v := 46) (by decide) dX10_kindOf_1 rfl ?_
  refine fr_some_ite ?_
  refine fr_icmp_ne hg (m := 10) dX10_kindOf_3 (by decide) rfl ?_ ?_
  · refine fr_iload_n hg 0 rfl dX10_kindOf_10 rfl ?_
    refine fr_bipush hg (v := 108) (by decide) dX10_kindOf_11 rfl ?_
    refine fr_some_ite ?_
    refine fr_icmp_ne hg (m := 20) dX10_kindOf_13 (by decide) rfl ?_ ?_
    · refine fr_iload_n hg 0 rfl dX10_kindOf_20 rfl ?_
      refine fr_bipush hg (v := 114) (by decide) dX10_kindOf_21 rfl ?_
      refine fr_some_ite ?_
      refine fr_icmp_ne hg (m := 30) dX10_kindOf_23 (by decide) rfl ?_ ?_
      · refine fr_iload_n hg 0 rfl dX10_kindOf_30 rfl ?_
        refine fr_bipush hg (v := 115) (by decide) dX10_kindOf_31 rfl ?_
        refine fr_some_ite ?_
        refine fr_icmp_ne hg (m := 40) dX10_kindOf_33 (by decide) rfl ?_ ?_
        · refine fr_iload_n hg 0 rfl dX10_kindOf_40 rfl ?_
          refine fr_bipush hg (v := 120) (by decide) dX10_kindOf_41 rfl ?_
          refine fr_some_ite ?_
          refine fr_icmp_ne hg (m := 50) dX10_kindOf_43 (by decide) rfl ?_ ?_
          · refine fr_iconst hg (v := (-1)) (by decide) dX10_kindOf_50 rfl ?_
            exact fr_iret hg (rty := .int) rfl dX10_kindOf_51 (fun h => h)
          · refine fr_iconst hg (v := 4) (by decide) dX10_kindOf_46 rfl ?_
            refine fr_goto hg (n := 51) dX10_kindOf_47 (by decide) ?_
            exact fr_iret hg (rty := .int) rfl dX10_kindOf_51 (fun h => h)
        · refine fr_iconst hg (v := 3) (by decide) dX10_kindOf_36 rfl ?_
          refine fr_goto hg (n := 51) dX10_kindOf_37 (by decide) ?_
          exact fr_iret hg (rty := .int) rfl dX10_kindOf_51 (fun h => h)
      · refine fr_iconst hg (v := 2) (by decide) dX10_kindOf_26 rfl ?_
        refine fr_goto hg (n := 51) dX10_kindOf_27 (by decide) ?_
        exact fr_iret hg (rty := .int) rfl dX10_kindOf_51 (fun h => h)
    · refine fr_iconst hg (v := 1) (by decide) dX10_kindOf_16 rfl ?_
      refine fr_goto hg (n := 51) dX10_kindOf_17 (by decide) ?_
      exact fr_iret hg (rty := .int) rfl dX10_kindOf_51 (fun h => h)
  · refine fr_iconst hg (v := 0) (by decide) dX10_kindOf_6 rfl ?_
    refine fr_goto hg (n := 51) dX10_kindOf_7 (by decide) ?_
    exact fr_iret hg (rty := .int) rfl dX10_kindOf_51 (fun h => h)
