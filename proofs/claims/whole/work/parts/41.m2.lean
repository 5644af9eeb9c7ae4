noncomputable def zX10_readsRoad_L7 (v1 : Int32) (σ : fr_St) : Option ((Int32 × fr_St) ⊕ ((Int32 × fr_St) ⊕ (fr_St))) :=
  (fr_al 2 σ 6 1).bind (fun x1 => if x1 ≤ v1 then some (.inr (.inr σ)) else (fr_al 80 σ 5 (40 + v1)).bind (fun x2 => if zX10_kindOf x2 = (-1) then some (.inr (.inl (v1, (fr_put σ 0 14 0)))) else (fr_as 40 σ 10 (σ 0 14) (zX10_kindOf x2)).bind (fun σ3 => some (.inl (v1 + 1, (fr_put σ3 0 14 ((σ3 0 14) + 1)))))))
noncomputable def zX10_readsRoad (σ : fr_St)  : Option (Int32 × fr_St) :=
  (fr_loop (fun (b1 : Int32 × fr_St) => zX10_readsRoad_L7 b1.1 b1.2) fr_fu (0, (fr_put σ 0 14 0))).bind (fr_ei (fun r => some r) (fun (c2 : fr_St) => some ((-1), c2)))
set_option maxRecDepth 100000 in
set_option maxHeartbeats 4000000 in
theorem mX10_readsRoad  : fr_MI2 yX10_readsRoad cX10_readsRoad 3 .int 1 20 fr_shM (fun w => [.ref (fr_ad w 0)]) (fun σ => zX10_readsRoad σ) := by
  refine fr_mkI2 (by decide) (fun w => Nat.le_of_ble_eq_true rfl) (fun g w σ hg => ?_)
  show fr_V g w 3 (zX10_readsRoad σ) _ 0 [(0, .ref (fr_ad w 0))] [] σ
  unfold zX10_readsRoad
  refine fr_aload_n hg 0 rfl dX10_readsRoad_0 rfl ?_
  refine fr_iconst hg (v := 0) (by decide) dX10_readsRoad_1 rfl ?_
  refine fr_puti hg (q := 0) fp_X10_128 rfl rfl rfl rfl dX10_readsRoad_2 rfl ?_
  refine fr_iconst hg (v := 0) (by decide) dX10_readsRoad_5 rfl ?_
  refine fr_istore_n hg (ls' := [(0, .ref (fr_ad w 0)), (1, .int 0)]) dX10_readsRoad_6 rfl (by decide) rfl rfl ?_
  refine fr_lpr (fun (b1 : Int32 × fr_St) => [(0, .ref (fr_ad w 0)), (1, .int b1.1)]) (fun b1 => b1.2) 68 (fun (c2 : fr_St) => []) (fun c2 => c2) [0, 1] rfl rfl (fun r => fr_RI g w .int r.1 r.2) (fun r t h1 h2 => ?_) (fun b1 => ?_) (fun c2 => ?_)
  · cases h1; exact h2
  · show fr_V g w _ (zX10_readsRoad_L7 b1.1 b1.2) _ _ _ _ _
    unfold zX10_readsRoad_L7
    refine fr_iload_n hg 1 rfl dX10_readsRoad_7 rfl ?_
    refine fr_aload_n hg 0 rfl dX10_readsRoad_8 rfl ?_
    refine fr_getr hg (q := 0) (q' := 6) fo_X10_25 rfl rfl dX10_readsRoad_9 rfl ?_
    refine fr_iconst hg (v := 1) (by decide) dX10_readsRoad_12 rfl ?_
    refine fr_iaload hg (q := 6) rfl dX10_readsRoad_13 rfl (fun x3 => ?_)
    refine fr_icmp_ge hg (m := 68) dX10_readsRoad_14 (by decide) rfl ?_ ?_
    · exact fr_leaf [] rfl (fun h => h)
    · refine fr_aload_n hg 0 rfl dX10_readsRoad_17 rfl ?_
      refine fr_getr hg (q := 0) (q' := 5) fo_X10_22 rfl rfl dX10_readsRoad_18 rfl ?_
      refine fr_bipush hg (v := 40) (by decide) dX10_readsRoad_21 rfl ?_
      refine fr_iload_n hg 1 rfl dX10_readsRoad_23 rfl ?_
      refine fr_iadd hg dX10_readsRoad_24 rfl ?_
      refine fr_iaload hg (q := 5) rfl dX10_readsRoad_25 rfl (fun x4 => ?_)
      refine fr_ci0 hg (mX10_kindOf x4) (fr_crS hg mo_X10_131 rfl (by decide) (by decide) (Nat.le_of_ble_eq_true rfl) dX10_readsRoad_26 rfl) rfl ?_
      refine fr_istore_n hg (ls' := [(0, .ref (fr_ad w 0)), (1, .int b1.1), (2, .int (zX10_kindOf x4))]) dX10_readsRoad_29 rfl (by decide) rfl rfl ?_
      refine fr_iload_n hg 2 rfl dX10_readsRoad_30 rfl ?_
      refine fr_iconst hg (v := (-1)) (by decide) dX10_readsRoad_31 rfl ?_
      refine fr_icmp_ne hg (m := 42) dX10_readsRoad_32 (by decide) rfl ?_ ?_
      · refine fr_aload_n hg 0 rfl dX10_readsRoad_42 rfl ?_
        refine fr_getr hg (q := 0) (q' := 10) fo_X10_38 rfl rfl dX10_readsRoad_43 rfl ?_
        refine fr_aload_n hg 0 rfl dX10_readsRoad_46 rfl ?_
        refine fr_geti hg (q := 0) fo_X10_128 rfl rfl dX10_readsRoad_47 rfl ?_
        refine fr_iload_n hg 2 rfl dX10_readsRoad_50 rfl ?_
        refine fr_iastore hg (q := 10) rfl dX10_readsRoad_51 rfl (fun σ5 => ?_)
        refine fr_aload_n hg 0 rfl dX10_readsRoad_52 rfl ?_
        refine fr_dup hg rfl dX10_readsRoad_53 rfl ?_
        refine fr_geti hg (q := 0) fo_X10_128 rfl rfl dX10_readsRoad_54 rfl ?_
        refine fr_iconst hg (v := 1) (by decide) dX10_readsRoad_57 rfl ?_
        refine fr_iadd hg dX10_readsRoad_58 rfl ?_
        refine fr_puti hg (q := 0) fp_X10_128 rfl rfl rfl rfl dX10_readsRoad_59 rfl ?_
        refine fr_iinc hg 1 (v := b1.1 + 1) (ls' := [(0, .ref (fr_ad w 0)), (1, .int (b1.1 + 1)), (2, .int (zX10_kindOf x4))]) dX10_readsRoad_62 rfl rfl (by decide) rfl rfl ?_
        refine fr_goto hg (n := 7) dX10_readsRoad_65 (by decide) ?_
        exact fr_leaf [0, 1] rfl (fun h => h)
      · refine fr_aload_n hg 0 rfl dX10_readsRoad_35 rfl ?_
        refine fr_iconst hg (v := 0) (by decide) dX10_readsRoad_36 rfl ?_
        refine fr_puti hg (q := 0) fp_X10_128 rfl rfl rfl rfl dX10_readsRoad_37 rfl ?_
        refine fr_iload_n hg 1 rfl dX10_readsRoad_40 rfl ?_
        exact fr_iret hg (rty := .int) rfl dX10_readsRoad_41 (fun h => h)
  refine fr_iconst hg (v := (-1)) (by decide) dX10_readsRoad_68 rfl ?_
  exact fr_iret hg (rty := .int) rfl dX10_readsRoad_69 (fun h => h)
noncomputable def zX10_fault (σ : fr_St) (a1 : Int32) : Option (Int32 × fr_St) :=
  if zX10_isTwo a1 = 0 then some ((-2), σ) else if a1 = 0 then (zX10_readsPane σ).bind (fun p4 => some (p4.1, p4.2)) else (zX10_readsRoad σ).bind (fun p2 => some (p2.1, p2.2))
set_option maxRecDepth 100000 in
set_option maxHeartbeats 4000000 in
theorem mX10_fault (a1 : Int32) : fr_MI2 yX10_fault cX10_fault 2 .int 3 69 fr_shM (fun w => [.ref (fr_ad w 0), .int a1]) (fun σ => zX10_fault σ a1) := by
  refine fr_mkI2 (by decide) (fun w => Nat.le_of_ble_eq_true rfl) (fun g w σ hg => ?_)
  show fr_V g w 2 (zX10_fault σ a1) _ 0 [(0, .ref (fr_ad w 0)), (1, .int a1)] [] σ
  unfold zX10_fault
  refine fr_iload_n hg 1 rfl dX10_fault_0 rfl ?_
  refine fr_ci0 hg (mX10_isTwo a1) (fr_crS hg mo_X10_102 rfl (by decide) (by decide) (Nat.le_of_ble_eq_true rfl) dX10_fault_1 rfl) rfl ?_
  refine fr_if_ne hg (m := 12) dX10_fault_4 (by decide) rfl ?_ ?_
  · refine fr_iload_n hg 1 rfl dX10_fault_12 rfl ?_
    refine fr_if_ne hg (m := 23) dX10_fault_13 (by decide) rfl ?_ ?_
    · refine fr_aload_n hg 0 rfl dX10_fault_23 rfl ?_
      refine fr_ci2 hg mX10_readsRoad (fr_crV hg (q := 0) mo_X10_138 rfl ⟨_, _, rfl⟩ rfl (by decide) (by decide) (Nat.le_of_ble_eq_true rfl) dX10_fault_24 rfl) rfl (fun p2 => ?_)
      exact fr_iret hg (rty := .int) rfl dX10_fault_27 (fun h => h)
    · refine fr_aload_n hg 0 rfl dX10_fault_16 rfl ?_
      refine fr_ci2 hg mX10_readsPane (fr_crV hg (q := 0) mo_X10_134 rfl ⟨_, _, rfl⟩ rfl (by decide) (by decide) (Nat.le_of_ble_eq_true rfl) dX10_fault_17 rfl) rfl (fun p4 => ?_)
      refine fr_goto hg (n := 27) dX10_fault_20 (by decide) ?_
      exact fr_iret hg (rty := .int) rfl dX10_fault_27 (fun h => h)
  · refine fr_bipush hg (v := (-2)) (by decide) dX10_fault_7 rfl ?_
    refine fr_goto hg (n := 27) dX10_fault_9 (by decide) ?_
    exact fr_iret hg (rty := .int) rfl dX10_fault_27 (fun h => h)
def zX10_isTool (a1 : Int32) : Int32 :=
  zX10_in a1.toInt64 0 3
theorem zbX10_isTool (a1 : Int32) : zX10_isTool a1 = 0 ∨ zX10_isTool a1 = 1 := by
  unfold zX10_isTool
  first | exact zbX10_in a1.toInt64 0 3 | ((repeat' split) <;> first | exact Or.inl rfl | exact Or.inr rfl)
set_option maxRecDepth 100000 in
set_option maxHeartbeats 4000000 in
theorem mX10_isTool (a1 : Int32) : fr_MI0 yX10_isTool cX10_isTool 1 .boolean 1 25 fr_shM (fun w => [.int a1]) (fun σ => zX10_isTool a1) := by
  refine fr_mkI0 (by decide) (fun w => Nat.le_of_ble_eq_true rfl) (fun g w σ hg => ?_)
  show fr_V g w 1 (some (zX10_isTool a1)) _ 0 [(0, .int a1)] [] σ
  unfold zX10_isTool
  refine fr_iload_n hg 0 rfl dX10_isTool_0 rfl ?_
  refine fr_i2l hg dX10_isTool_1 rfl ?_
  refine fr_lconst hg (v := 0) (by decide) dX10_isTool_2 rfl ?_
  refine fr_ldc2 hg cl_X10_81 dX10_isTool_3 rfl ?_
  refine fr_ci0 hg (mX10_in a1.toInt64 0 3) (fr_crS hg mo_X10_73 rfl (by decide) (by decide) (Nat.le_of_ble_eq_true rfl) dX10_isTool_6 rfl) rfl ?_
  exact fr_iret hg (rty := .boolean) (fr_nb (zbX10_in a1.toInt64 0 3)) dX10_isTool_9 (fun h => h)
noncomputable def zX10_tool (σ : fr_St) (a1 : Int32) (a2 : Int32) (a3 : Int32) : Option (Int32 × fr_St) :=
  if zX10_isTool a1 = 0 then some ((-2), σ) else if zX10_isTwo a2 = 0 then some ((-2), σ) else (some (if a2 = 0 then 60 else 99) : Option (Int64)).bind (fun t1 => if zX10_in a3.toInt64 ((1 - a2).toInt64) t1 = 0 then some ((-2), σ) else (if a2 = 0 then (fr_al 4 σ 11 a1).bind (fun x4 => some x4) else (fr_al 4 σ 12 a1).bind (fun x3 => some x3) : Option (Int32)).bind (fun t2 => (if a2 = 0 then some a3 else (fr_al 4 σ 11 a1).bind (fun x6 => some x6) : Option (Int32)).bind (fun t5 => (fr_as 4 σ 11 a1 t5).bind (fun σ7 => if a2 = 1 then (fr_as 4 σ7 12 a1 a3).bind (fun σ10 => some (t2, σ10)) else (fr_al 4 σ7 12 a1).bind (fun x8 => (fr_as 4 σ7 12 a1 x8).bind (fun σ9 => some (t2, σ9)))))))
set_option maxRecDepth 100000 in
set_option maxHeartbeats 4000000 in
theorem mX10_tool (a1 : Int32) (a2 : Int32) (a3 : Int32) : fr_MI2 yX10_tool cX10_tool 5 .int 2 45 fr_shM (fun w => [.ref (fr_ad w 0), .int a1, .int a2, .int a3]) (fun σ => zX10_tool σ a1 a2 a3) := by
  refine fr_mkI2 (by decide) (fun w => Nat.le_of_ble_eq_true rfl) (fun g w σ hg => ?_)
  show fr_V g w 5 (zX10_tool σ a1 a2 a3) _ 0 [(0, .ref (fr_ad w 0)), (1, .int a1), (2, .int a2), (3, .int a3)] [] σ
  unfold zX10_tool
  refine fr_iload_n hg 1 rfl dX10_tool_0 rfl ?_
  refine fr_ci0 hg (mX10_isTool a1) (fr_crS hg mo_X10_143 rfl (by decide) (by decide) (Nat.le_of_ble_eq_true rfl) dX10_tool_1 rfl) rfl ?_
  refine fr_if_eq hg (m := 39) dX10_tool_4 (by decide) rfl ?_ ?_
  · refine fr_bipush hg (v := (-2)) (by decide) dX10_tool_39 rfl ?_
    exact fr_iret hg (rty := .int) rfl dX10_tool_41 (fun h => h)
  · refine fr_iload_n hg 2 rfl dX10_tool_7 rfl ?_
    refine fr_ci0 hg (mX10_isTwo a2) (fr_crS hg mo_X10_102 rfl (by decide) (by decide) (Nat.le_of_ble_eq_true rfl) dX10_tool_8 rfl) rfl ?_
    refine fr_if_eq hg (m := 39) dX10_tool_11 (by decide) rfl ?_ ?_
    · refine fr_bipush hg (v := (-2)) (by decide) dX10_tool_39 rfl ?_
      exact fr_iret hg (rty := .int) rfl dX10_tool_41 (fun h => h)
    · refine fr_iload_n hg 3 rfl dX10_tool_14 rfl ?_
      refine fr_i2l hg dX10_tool_15 rfl ?_
      refine fr_iconst hg (v := 1) (by decide) dX10_tool_16 rfl ?_
      refine fr_iload_n hg 2 rfl dX10_tool_17 rfl ?_
      refine fr_isub hg dX10_tool_18 rfl ?_
      refine fr_i2l hg dX10_tool_19 rfl ?_
      refine fr_iload_n hg 2 rfl dX10_tool_20 rfl ?_
      refine fr_join (m := 33) (lj := fun (t1 : Int64) => [(0, .ref (fr_ad w 0)), (1, .int a1), (2, .int a2), (3, .int a3)]) (sj := fun t1 => [.long t1, .long ((1 - a2).toInt64), .long a3.toInt64]) (wj := fun t1 => σ) ?_ (fun t1 => ?_)
      · refine fr_some_ite ?_
        refine fr_if_ne hg (m := 30) dX10_tool_21 (by decide) rfl ?_ ?_
        · refine fr_ldc2 hg cl_X10_148 dX10_tool_30 rfl ?_
          exact fr_leaf [0, 1, 2, 3] rfl (fun h => h)
        · refine fr_ldc2 hg cl_X10_146 dX10_tool_24 rfl ?_
          refine fr_goto hg (n := 33) dX10_tool_27 (by decide) ?_
          exact fr_leaf [0, 1, 2, 3] rfl (fun h => h)
      refine fr_ci0 hg (mX10_in a3.toInt64 ((1 - a2).toInt64) t1) (fr_crS hg mo_X10_73 rfl (by decide) (by decide) (Nat.le_of_ble_eq_true rfl) dX10_tool_33 rfl) rfl ?_
      refine fr_if_ne hg (m := 42) dX10_tool_36 (by decide) rfl ?_ ?_
      · refine fr_iload_n hg 2 rfl dX10_tool_42 rfl ?_
        refine fr_join (m := 61) (lj := fun (t2 : Int32) => [(0, .ref (fr_ad w 0)), (1, .int a1), (2, .int a2), (3, .int a3)]) (sj := fun t2 => [.int t2]) (wj := fun t2 => σ) ?_ (fun t2 => ?_)
        · refine fr_if_ne hg (m := 55) dX10_tool_43 (by decide) rfl ?_ ?_
          · refine fr_aload_n hg 0 rfl dX10_tool_55 rfl ?_
            refine fr_getr hg (q := 0) (q' := 12) fo_X10_44 rfl rfl dX10_tool_56 rfl ?_
            refine fr_iload_n hg 1 rfl dX10_tool_59 rfl ?_
            refine fr_iaload hg (q := 12) rfl dX10_tool_60 rfl (fun x3 => ?_)
            exact fr_leaf [0, 1, 2, 3] rfl (fun h => h)
          · refine fr_aload_n hg 0 rfl dX10_tool_46 rfl ?_
            refine fr_getr hg (q := 0) (q' := 11) fo_X10_41 rfl rfl dX10_tool_47 rfl ?_
            refine fr_iload_n hg 1 rfl dX10_tool_50 rfl ?_
            refine fr_iaload hg (q := 11) rfl dX10_tool_51 rfl (fun x4 => ?_)
            refine fr_goto hg (n := 61) dX10_tool_52 (by decide) ?_
            exact fr_leaf [0, 1, 2, 3] rfl (fun h => h)
        refine fr_istore hg (ls' := [(0, .ref (fr_ad w 0)), (1, .int a1), (2, .int a2), (3, .int a3), (4, .int t2)]) dX10_tool_61 (by decide) rfl rfl ?_
        refine fr_aload_n hg 0 rfl dX10_tool_63 rfl ?_
        refine fr_getr hg (q := 0) (q' := 11) fo_X10_41 rfl rfl dX10_tool_64 rfl ?_
        refine fr_iload_n hg 1 rfl dX10_tool_67 rfl ?_
        refine fr_iload_n hg 2 rfl dX10_tool_68 rfl ?_
        refine fr_join (m := 82) (lj := fun (t5 : Int32) => [(0, .ref (fr_ad w 0)), (1, .int a1), (2, .int a2), (3, .int a3), (4, .int t2)]) (sj := fun t5 => [.int t5, .int a1, .ref (fr_ad w 11)]) (wj := fun t5 => σ) ?_ (fun t5 => ?_)
        · refine fr_if_ne hg (m := 76) dX10_tool_69 (by decide) rfl ?_ ?_
          · refine fr_aload_n hg 0 rfl dX10_tool_76 rfl ?_
            refine fr_getr hg (q := 0) (q' := 11) fo_X10_41 rfl rfl dX10_tool_77 rfl ?_
            refine fr_iload_n hg 1 rfl dX10_tool_80 rfl ?_
            refine fr_iaload hg (q := 11) rfl dX10_tool_81 rfl (fun x6 => ?_)
            exact fr_leaf [0, 1, 2, 3, 4] rfl (fun h => h)
          · refine fr_iload_n hg 3 rfl dX10_tool_72 rfl ?_
            refine fr_goto hg (n := 82) dX10_tool_73 (by decide) ?_
            exact fr_leaf [0, 1, 2, 3, 4] rfl (fun h => h)
        refine fr_iastore hg (q := 11) rfl dX10_tool_82 rfl (fun σ7 => ?_)
        refine fr_aload_n hg 0 rfl dX10_tool_83 rfl ?_
        refine fr_getr hg (q := 0) (q' := 12) fo_X10_44 rfl rfl dX10_tool_84 rfl ?_
        refine fr_iload_n hg 1 rfl dX10_tool_87 rfl ?_
        refine fr_iload_n hg 2 rfl dX10_tool_88 rfl ?_
        refine fr_iconst hg (v := 1) (by decide) dX10_tool_89 rfl ?_
        refine fr_icmp_ne hg (m := 97) dX10_tool_90 (by decide) rfl ?_ ?_
        · refine fr_aload_n hg 0 rfl dX10_tool_97 rfl ?_
          refine fr_getr hg (q := 0) (q' := 12) fo_X10_44 rfl rfl dX10_tool_98 rfl ?_
          refine fr_iload_n hg 1 rfl dX10_tool_101 rfl ?_
          refine fr_iaload hg (q := 12) rfl dX10_tool_102 rfl (fun x8 => ?_)
          refine fr_iastore hg (q := 12) rfl dX10_tool_103 rfl (fun σ9 => ?_)
          refine fr_iload hg 4 rfl dX10_tool_104 rfl ?_
          exact fr_iret hg (rty := .int) rfl dX10_tool_106 (fun h => h)
        · refine fr_iload_n hg 3 rfl dX10_tool_93 rfl ?_
          refine fr_goto hg (n := 103) dX10_tool_94 (by decide) ?_
          refine fr_iastore hg (q := 12) rfl dX10_tool_103 rfl (fun σ10 => ?_)
          refine fr_iload hg 4 rfl dX10_tool_104 rfl ?_
          exact fr_iret hg (rty := .int) rfl dX10_tool_106 (fun h => h)
      · refine fr_bipush hg (v := (-2)) (by decide) dX10_tool_39 rfl ?_
        exact fr_iret hg (rty := .int) rfl dX10_tool_41 (fun h => h)
def zX10_isAnyCell (a1 : Int32) : Int32 :=
  zX10_in a1.toInt64 0 31
theorem zbX10_isAnyCell (a1 : Int32) : zX10_isAnyCell a1 = 0 ∨ zX10_isAnyCell a1 = 1 := by
  unfold zX10_isAnyCell
  first | exact zbX10_in a1.toInt64 0 31 | ((repeat' split) <;> first | exact Or.inl rfl | exact Or.inr rfl)
set_option maxRecDepth 100000 in
set_option maxHeartbeats 4000000 in
theorem mX10_isAnyCell (a1 : Int32) : fr_MI0 yX10_isAnyCell cX10_isAnyCell 1 .boolean 1 25 fr_shM (fun w => [.int a1]) (fun σ => zX10_isAnyCell a1) := by
  refine fr_mkI0 (by decide) (fun w => Nat.le_of_ble_eq_true rfl) (fun g w σ hg => ?_)
  show fr_V g w 1 (some (zX10_isAnyCell a1)) _ 0 [(0, .int a1)] [] σ
  unfold zX10_isAnyCell
  refine fr_iload_n hg 0 rfl dX10_isAnyCell_0 rfl ?_
  refine fr_i2l hg dX10_isAnyCell_1 rfl ?_
  refine fr_lconst hg (v := 0) (by decide) dX10_isAnyCell_2 rfl ?_
  refine fr_ldc2 hg cl_X10_141 dX10_isAnyCell_3 rfl ?_
  refine fr_ci0 hg (mX10_in a1.toInt64 0 31) (fr_crS hg mo_X10_73 rfl (by decide) (by decide) (Nat.le_of_ble_eq_true rfl) dX10_isAnyCell_6 rfl) rfl ?_
  exact fr_iret hg (rty := .boolean) (fr_nb (zbX10_in a1.toInt64 0 31)) dX10_isAnyCell_9 (fun h => h)
noncomputable def zX10_looks (σ : fr_St) (a1 : Int32) (a2 : Int32) (a3 : Int32) : Option (Int32 × fr_St) :=
  if zX10_in a1.toInt64 0 4 = 0 then some ((-2), σ) else if zX10_isAnyCell a2 = 0 then some ((-2), σ) else if zX10_in a3.toInt64 0 9 = 0 then some ((-2), σ) else (fr_al 160 σ 13 ((32 * a1) + a2)).bind (fun x1 => (fr_as 160 σ 13 ((32 * a1) + a2) a3).bind (fun σ2 => some (x1, σ2)))
set_option maxRecDepth 100000 in
set_option maxHeartbeats 4000000 in
theorem mX10_looks (a1 : Int32) (a2 : Int32) (a3 : Int32) : fr_MI2 yX10_looks cX10_looks 5 .int 2 45 fr_shM (fun w => [.ref (fr_ad w 0), .int a1, .int a2, .int a3]) (fun σ => zX10_looks σ a1 a2 a3) := by
  refine fr_mkI2 (by decide) (fun w => Nat.le_of_ble_eq_true rfl) (fun g w σ hg => ?_)
  show fr_V g w 5 (zX10_looks σ a1 a2 a3) _ 0 [(0, .ref (fr_ad w 0)), (1, .int a1), (2, .int a2), (3, .int a3)] [] σ
  unfold zX10_looks
  refine fr_iload_n hg 1 rfl dX10_looks_0 rfl ?_
  refine fr_i2l hg dX10_looks_1 rfl ?_
  refine fr_lconst hg (v := 0) (by decide) dX10_looks_2 rfl ?_
  refine fr_ldc2 hg cl_X10_150 dX10_looks_3 rfl ?_
  refine fr_ci0 hg (mX10_in a1.toInt64 0 4) (fr_crS hg mo_X10_73 rfl (by decide) (by decide) (Nat.le_of_ble_eq_true rfl) dX10_looks_6 rfl) rfl ?_
  refine fr_if_eq hg (m := 31) dX10_looks_9 (by decide) rfl ?_ ?_
  · refine fr_bipush hg (v := (-2)) (by decide) dX10_looks_31 rfl ?_
    exact fr_iret hg (rty := .int) rfl dX10_looks_33 (fun h => h)
  · refine fr_iload_n hg 2 rfl dX10_looks_12 rfl ?_
    refine fr_ci0 hg (mX10_isAnyCell a2) (fr_crS hg mo_X10_152 rfl (by decide) (by decide) (Nat.le_of_ble_eq_true rfl) dX10_looks_13 rfl) rfl ?_
    refine fr_if_eq hg (m := 31) dX10_looks_16 (by decide) rfl ?_ ?_
    · refine fr_bipush hg (v := (-2)) (by decide) dX10_looks_31 rfl ?_
      exact fr_iret hg (rty := .int) rfl dX10_looks_33 (fun h => h)
    · refine fr_iload_n hg 3 rfl dX10_looks_19 rfl ?_
      refine fr_i2l hg dX10_looks_20 rfl ?_
      refine fr_lconst hg (v := 0) (by decide) dX10_looks_21 rfl ?_
      refine fr_ldc2 hg cl_X10_119 dX10_looks_22 rfl ?_
      refine fr_ci0 hg (mX10_in a3.toInt64 0 9) (fr_crS hg mo_X10_73 rfl (by decide) (by decide) (Nat.le_of_ble_eq_true rfl) dX10_looks_25 rfl) rfl ?_
      refine fr_if_ne hg (m := 34) dX10_looks_28 (by decide) rfl ?_ ?_
      · refine fr_aload_n hg 0 rfl dX10_looks_34 rfl ?_
        refine fr_getr hg (q := 0) (q' := 13) fo_X10_47 rfl rfl dX10_looks_35 rfl ?_
        refine fr_bipush hg (v := 32) (by decide) dX10_looks_38 rfl ?_
        refine fr_iload_n hg 1 rfl dX10_looks_40 rfl ?_
        refine fr_imul hg dX10_looks_41 rfl ?_
        refine fr_iload_n hg 2 rfl dX10_looks_42 rfl ?_
        refine fr_iadd hg dX10_looks_43 rfl ?_
        refine fr_iaload hg (q := 13) rfl dX10_looks_44 rfl (fun x1 => ?_)
        refine fr_istore hg (ls' := [(0, .ref (fr_ad w 0)), (1, .int a1), (2, .int a2), (3, .int a3), (4, .int x1)]) dX10_looks_45 (by decide) rfl rfl ?_
        refine fr_aload_n hg 0 rfl dX10_looks_47 rfl ?_
        refine fr_getr hg (q := 0) (q' := 13) fo_X10_47 rfl rfl dX10_looks_48 rfl ?_
        refine fr_bipush hg (v := 32) (by decide) dX10_looks_51 rfl ?_
        refine fr_iload_n hg 1 rfl dX10_looks_53 rfl ?_
        refine fr_imul hg dX10_looks_54 rfl ?_
        refine fr_iload_n hg 2 rfl dX10_looks_55 rfl ?_
        refine fr_iadd hg dX10_looks_56 rfl ?_
        refine fr_iload_n hg 3 rfl dX10_looks_57 rfl ?_
        refine fr_iastore hg (q := 13) rfl dX10_looks_58 rfl (fun σ2 => ?_)
        refine fr_iload hg 4 rfl dX10_looks_59 rfl ?_
        exact fr_iret hg (rty := .int) rfl dX10_looks_61 (fun h => h)
      · refine fr_bipush hg (v := (-2)) (by decide) dX10_looks_31 rfl ?_
        exact fr_iret hg (rty := .int) rfl dX10_looks_33 (fun h => h)
def zX10_isSheet (a1 : Int32) : Int32 :=
  zX10_in a1.toInt64 0 3
theorem zbX10_isSheet (a1 : Int32) : zX10_isSheet a1 = 0 ∨ zX10_isSheet a1 = 1 := by
  unfold zX10_isSheet
  first | exact zbX10_in a1.toInt64 0 3 | ((repeat' split) <;> first | exact Or.inl rfl | exact Or.inr rfl)
set_option maxRecDepth 100000 in
set_option maxHeartbeats 4000000 in
theorem mX10_isSheet (a1 : Int32) : fr_MI0 yX10_isSheet cX10_isSheet 1 .boolean 1 25 fr_shM (fun w => [.int a1]) (fun σ => zX10_isSheet a1) := by
  refine fr_mkI0 (by decide) (fun w => Nat.le_of_ble_eq_true rfl) (fun g w σ hg => ?_)
  show fr_V g w 1 (some (zX10_isSheet a1)) _ 0 [(0, .int a1)] [] σ
  unfold zX10_isSheet
  refine fr_iload_n hg 0 rfl dX10_isSheet_0 rfl ?_
  refine fr_i2l hg dX10_isSheet_1 rfl ?_
  refine fr_lconst hg (v := 0) (by decide) dX10_isSheet_2 rfl ?_
  refine fr_ldc2 hg cl_X10_81 dX10_isSheet_3 rfl ?_
  refine fr_ci0 hg (mX10_in a1.toInt64 0 3) (fr_crS hg mo_X10_73 rfl (by decide) (by decide) (Nat.le_of_ble_eq_true rfl) dX10_isSheet_6 rfl) rfl ?_
  exact fr_iret hg (rty := .boolean) (fr_nb (zbX10_in a1.toInt64 0 3)) dX10_isSheet_9 (fun h => h)
noncomputable def zX10_met (σ : fr_St) (a1 : Int32) : Option (Int32 × fr_St) :=
  some ((-10) - a1, (fr_put σ 0 4 a1))
set_option maxRecDepth 100000 in
set_option maxHeartbeats 4000000 in
theorem mX10_met (a1 : Int32) : fr_MI2 yX10_met cX10_met 2 .int 0 0 fr_shM (fun w => [.ref (fr_ad w 0), .int a1]) (fun σ => zX10_met σ a1) := by
  refine fr_mkI2 (by decide) (fun w => Nat.le_of_ble_eq_true rfl) (fun g w σ hg => ?_)
  show fr_V g w 2 (zX10_met σ a1) _ 0 [(0, .ref (fr_ad w 0)), (1, .int a1)] [] σ
  unfold zX10_met
  refine fr_aload_n hg 0 rfl dX10_met_0 rfl ?_
  refine fr_iload_n hg 1 rfl dX10_met_1 rfl ?_
  refine fr_puti hg (q := 0) fp_X10_77 rfl rfl rfl rfl dX10_met_2 rfl ?_
  refine fr_bipush hg (v := (-10)) (by decide) dX10_met_5 rfl ?_
  refine fr_iload_n hg 1 rfl dX10_met_7 rfl ?_
  refine fr_isub hg dX10_met_8 rfl ?_
  exact fr_iret hg (rty := .int) rfl dX10_met_9 (fun h => h)
noncomputable def zX10_read_L39 (k1 : Int32) (k2 : Int32) (v3 : Int32) (σ : fr_St) : Option ((Int32 × fr_St) ⊕ (Int32 × fr_St)) :=
  (fr_al 4 σ 2 k1).bind (fun x1 => if x1 ≤ v3 then some (.inr (v3, σ)) else (fr_al 240 σ 3 ((60 * k1) + v3)).bind (fun x2 => (zX10_looks σ k2 v3 x2).bind (fun p4 => if p4.1 < 0 then some (.inr (v3, p4.2)) else some (.inl (v3 + 1, p4.2)))))
noncomputable def zX10_read (σ : fr_St) (a1 : Int32) (a2 : Int32) : Option (Int32 × fr_St) :=
  if zX10_isSheet a1 = 0 then some ((-2), σ) else if zX10_in a2.toInt64 0 4 = 0 then some ((-2), σ) else (fr_al 4 σ 1 a1).bind (fun x1 => if 0 ≤ x1 then (fr_loop (fun (b2 : Int32 × fr_St) => zX10_read_L39 a1 a2 b2.1 b2.2) fr_fu (0, σ)).bind (fun (c3 : Int32 × fr_St) => some (c3.1, c3.2)) else (zX10_met σ 1).bind (fun p9 => some (p9.1, p9.2)))
set_option maxRecDepth 100000 in
set_option maxHeartbeats 4000000 in
theorem mX10_read (a1 : Int32) (a2 : Int32) : fr_MI2 yX10_read cX10_read 4 .int 3 69 fr_shM (fun w => [.ref (fr_ad w 0), .int a1, .int a2]) (fun σ => zX10_read σ a1 a2) := by
  refine fr_mkI2 (by decide) (fun w => Nat.le_of_ble_eq_true rfl) (fun g w σ hg => ?_)
  show fr_V g w 4 (zX10_read σ a1 a2) _ 0 [(0, .ref (fr_ad w 0)), (1, .int a1), (2, .int a2)] [] σ
  unfold zX10_read
  refine fr_iload_n hg 1 rfl dX10_read_0 rfl ?_
  refine fr_ci0 hg (mX10_isSheet a1) (fr_crS hg mo_X10_83 rfl (by decide) (by decide) (Nat.le_of_ble_eq_true rfl) dX10_read_1 rfl) rfl ?_
  refine fr_if_eq hg (m := 19) dX10_read_4 (by decide) rfl ?_ ?_
  · refine fr_bipush hg (v := (-2)) (by decide) dX10_read_19 rfl ?_
    exact fr_iret hg (rty := .int) rfl dX10_read_21 (fun h => h)
  · refine fr_iload_n hg 2 rfl dX10_read_7 rfl ?_
    refine fr_i2l hg dX10_read_8 rfl ?_
    refine fr_lconst hg (v := 0) (by decide) dX10_read_9 rfl ?_
    refine fr_ldc2 hg cl_X10_150 dX10_read_10 rfl ?_
    refine fr_ci0 hg (mX10_in a2.toInt64 0 4) (fr_crS hg mo_X10_73 rfl (by decide) (by decide) (Nat.le_of_ble_eq_true rfl) dX10_read_13 rfl) rfl ?_
    refine fr_if_ne hg (m := 22) dX10_read_16 (by decide) rfl ?_ ?_
    · refine fr_aload_n hg 0 rfl dX10_read_22 rfl ?_
      refine fr_getr hg (q := 0) (q' := 1) fo_X10_7 rfl rfl dX10_read_23 rfl ?_
      refine fr_iload_n hg 1 rfl dX10_read_26 rfl ?_
      refine fr_iaload hg (q := 1) rfl dX10_read_27 rfl (fun x1 => ?_)
      refine fr_if_ge hg (m := 37) dX10_read_28 (by decide) rfl ?_ ?_
      · refine fr_iconst hg (v := 0) (by decide) dX10_read_37 rfl ?_
        refine fr_istore_n hg (ls' := [(0, .ref (fr_ad w 0)), (1, .int a1), (2, .int a2), (3, .int 0)]) dX10_read_38 rfl (by decide) rfl rfl ?_
        refine fr_lp (fun (b2 : Int32 × fr_St) => [(0, .ref (fr_ad w 0)), (1, .int a1), (2, .int a2), (3, .int b2.1)]) (fun b2 => b2.2) 75 (fun (c3 : Int32 × fr_St) => [(3, .int c3.1)]) (fun c3 => c3.2) [0, 1, 2, 3] rfl rfl (fun b2 => ?_) (fun c3 => ?_)
        · show fr_V g w _ (zX10_read_L39 a1 a2 b2.1 b2.2) _ _ _ _ _
          unfold zX10_read_L39
          refine fr_iload_n hg 3 rfl dX10_read_39 rfl ?_
          refine fr_aload_n hg 0 rfl dX10_read_40 rfl ?_
          refine fr_getr hg (q := 0) (q' := 2) fo_X10_13 rfl rfl dX10_read_41 rfl ?_
          refine fr_iload_n hg 1 rfl dX10_read_44 rfl ?_
          refine fr_iaload hg (q := 2) rfl dX10_read_45 rfl (fun x4 => ?_)
          refine fr_icmp_ge hg (m := 75) dX10_read_46 (by decide) rfl ?_ ?_
          · exact fr_leaf [3] rfl (fun h => h)
          · refine fr_aload_n hg 0 rfl dX10_read_49 rfl ?_
            refine fr_iload_n hg 2 rfl dX10_read_50 rfl ?_
            refine fr_iload_n hg 3 rfl dX10_read_51 rfl ?_
            refine fr_aload_n hg 0 rfl dX10_read_52 rfl ?_
            refine fr_getr hg (q := 0) (q' := 3) fo_X10_16 rfl rfl dX10_read_53 rfl ?_
            refine fr_bipush hg (v := 60) (by decide) dX10_read_56 rfl ?_
            refine fr_iload_n hg 1 rfl dX10_read_58 rfl ?_
            refine fr_imul hg dX10_read_59 rfl ?_
            refine fr_iload_n hg 3 rfl dX10_read_60 rfl ?_
            refine fr_iadd hg dX10_read_61 rfl ?_
            refine fr_iaload hg (q := 3) rfl dX10_read_62 rfl (fun x5 => ?_)
            refine fr_ci2 hg (mX10_looks a2 b2.1 x5) (fr_crV hg (q := 0) mo_X10_155 rfl ⟨_, _, rfl⟩ rfl (by decide) (by decide) (Nat.le_of_ble_eq_true rfl) dX10_read_63 rfl) rfl (fun p7 => ?_)
            refine fr_if_lt hg (m := 75) dX10_read_66 (by decide) rfl ?_ ?_
            · exact fr_leaf [3] rfl (fun h => h)
            · refine fr_iinc hg 3 (v := b2.1 + 1) (ls' := [(0, .ref (fr_ad w 0)), (1, .int a1), (2, .int a2), (3, .int (b2.1 + 1))]) dX10_read_69 rfl rfl (by decide) rfl rfl ?_
              refine fr_goto hg (n := 39) dX10_read_72 (by decide) ?_
              exact fr_leaf [0, 1, 2, 3] rfl (fun h => h)
        refine fr_iload_n hg 0 rfl dX10_read_75 rfl ?_
        exact fr_iret hg (rty := .int) rfl dX10_read_76 (fun h => h)
      · refine fr_aload_n hg 0 rfl dX10_read_31 rfl ?_
        refine fr_iconst hg (v := 1) (by decide) dX10_read_32 rfl ?_
        refine fr_ci2 hg (mX10_met 1) (fr_crV hg (q := 0) mo_X10_89 rfl ⟨_, _, rfl⟩ rfl (by decide) (by decide) (Nat.le_of_ble_eq_true rfl) dX10_read_33 rfl) rfl (fun p9 => ?_)
        exact fr_iret hg (rty := .int) rfl dX10_read_36 (fun h => h)
    · refine fr_bipush hg (v := (-2)) (by decide) dX10_read_19 rfl ?_
      exact fr_iret hg (rty := .int) rfl dX10_read_21 (fun h => h)
noncomputable def zX10_stroke (σ : fr_St) (a1 : Int32) (a2 : Int32) : Option (Int32 × fr_St) :=
  if zX10_isTool a1 = 0 then some ((-2), σ) else if zX10_isAnyCell a2 = 0 then some ((-2), σ) else if σ 0 19 = 40 then some ((-4), σ) else (fr_as 80 σ 14 (2 * (σ 0 19)) a1).bind (fun σ1 => (fr_as 80 σ1 14 ((2 * (σ1 0 19)) + 1) a2).bind (fun σ2 => some ((fr_put σ2 0 19 ((σ2 0 19) + 1)) 0 19, (fr_put σ2 0 19 ((σ2 0 19) + 1)))))
set_option maxRecDepth 100000 in
set_option maxHeartbeats 4000000 in
theorem mX10_stroke (a1 : Int32) (a2 : Int32) : fr_MI2 yX10_stroke cX10_stroke 3 .int 2 45 fr_shM (fun w => [.ref (fr_ad w 0), .int a1, .int a2]) (fun σ => zX10_stroke σ a1 a2) := by
  refine fr_mkI2 (by decide) (fun w => Nat.le_of_ble_eq_true rfl) (fun g w σ hg => ?_)
  show fr_V g w 3 (zX10_stroke σ a1 a2) _ 0 [(0, .ref (fr_ad w 0)), (1, .int a1), (2, .int a2)] [] σ
  unfold zX10_stroke
  refine fr_iload_n hg 1 rfl dX10_stroke_0 rfl ?_
  refine fr_ci0 hg (mX10_isTool a1) (fr_crS hg mo_X10_143 rfl (by decide) (by decide) (Nat.le_of_ble_eq_true rfl) dX10_stroke_1 rfl) rfl ?_
  refine fr_if_eq hg (m := 14) dX10_stroke_4 (by decide) rfl ?_ ?_
  · refine fr_bipush hg (v := (-2)) (by decide) dX10_stroke_14 rfl ?_
    exact fr_iret hg (rty := .int) rfl dX10_stroke_16 (fun h => h)
  · refine fr_iload_n hg 2 rfl dX10_stroke_7 rfl ?_
    refine fr_ci0 hg (mX10_isAnyCell a2) (fr_crS hg mo_X10_152 rfl (by decide) (by decide) (Nat.le_of_ble_eq_true rfl) dX10_stroke_8 rfl) rfl ?_
    refine fr_if_ne hg (m := 17) dX10_stroke_11 (by decide) rfl ?_ ?_
    · refine fr_aload_n hg 0 rfl dX10_stroke_17 rfl ?_
      refine fr_geti hg (q := 0) fo_X10_158 rfl rfl dX10_stroke_18 rfl ?_
      refine fr_bipush hg (v := 40) (by decide) dX10_stroke_21 rfl ?_
      refine fr_icmp_ne hg (m := 29) dX10_stroke_23 (by decide) rfl ?_ ?_
      · refine fr_aload_n hg 0 rfl dX10_stroke_29 rfl ?_
        refine fr_getr hg (q := 0) (q' := 14) fo_X10_50 rfl rfl dX10_stroke_30 rfl ?_
        refine fr_iconst hg (v := 2) (by decide) dX10_stroke_33 rfl ?_
        refine fr_aload_n hg 0 rfl dX10_stroke_34 rfl ?_
        refine fr_geti hg (q := 0) fo_X10_158 rfl rfl dX10_stroke_35 rfl ?_
        refine fr_imul hg dX10_stroke_38 rfl ?_
        refine fr_iload_n hg 1 rfl dX10_stroke_39 rfl ?_
        refine fr_iastore hg (q := 14) rfl dX10_stroke_40 rfl (fun σ1 => ?_)
        refine fr_aload_n hg 0 rfl dX10_stroke_41 rfl ?_
        refine fr_getr hg (q := 0) (q' := 14) fo_X10_50 rfl rfl dX10_stroke_42 rfl ?_
        refine fr_iconst hg (v := 2) (by decide) dX10_stroke_45 rfl ?_
        refine fr_aload_n hg 0 rfl dX10_stroke_46 rfl ?_
        refine fr_geti hg (q := 0) fo_X10_158 rfl rfl dX10_stroke_47 rfl ?_
        refine fr_imul hg dX10_stroke_50 rfl ?_
        refine fr_iconst hg (v := 1) (by decide) dX10_stroke_51 rfl ?_
        refine fr_iadd hg dX10_stroke_52 rfl ?_
        refine fr_iload_n hg 2 rfl dX10_stroke_53 rfl ?_
        refine fr_iastore hg (q := 14) rfl dX10_stroke_54 rfl (fun σ2 => ?_)
        refine fr_aload_n hg 0 rfl dX10_stroke_55 rfl ?_
        refine fr_dup hg rfl dX10_stroke_56 rfl ?_
        refine fr_geti hg (q := 0) fo_X10_158 rfl rfl dX10_stroke_57 rfl ?_
        refine fr_iconst hg (v := 1) (by decide) dX10_stroke_60 rfl ?_
        refine fr_iadd hg dX10_stroke_61 rfl ?_
        refine fr_puti hg (q := 0) fp_X10_158 rfl rfl rfl rfl dX10_stroke_62 rfl ?_
        refine fr_aload_n hg 0 rfl dX10_stroke_65 rfl ?_
        refine fr_geti hg (q := 0) fo_X10_158 rfl rfl dX10_stroke_66 rfl ?_
        exact fr_iret hg (rty := .int) rfl dX10_stroke_69 (fun h => h)
      · refine fr_bipush hg (v := (-4)) (by decide) dX10_stroke_26 rfl ?_
        exact fr_iret hg (rty := .int) rfl dX10_stroke_28 (fun h => h)
    · refine fr_bipush hg (v := (-2)) (by decide) dX10_stroke_14 rfl ?_
      exact fr_iret hg (rty := .int) rfl dX10_stroke_16 (fun h => h)
noncomputable def zX10_back (σ : fr_St)  : Option (Int32 × fr_St) :=
  if σ 0 19 = 0 then some ((-3), σ) else some ((fr_put σ 0 19 ((σ 0 19) - 1)) 0 19, (fr_put σ 0 19 ((σ 0 19) - 1)))
set_option maxRecDepth 100000 in
set_option maxHeartbeats 4000000 in
theorem mX10_back  : fr_MI2 yX10_back cX10_back 1 .int 0 0 fr_shM (fun w => [.ref (fr_ad w 0)]) (fun σ => zX10_back σ) := by
  refine fr_mkI2 (by decide) (fun w => Nat.le_of_ble_eq_true rfl) (fun g w σ hg => ?_)
  show fr_V g w 1 (zX10_back σ) _ 0 [(0, .ref (fr_ad w 0))] [] σ
  unfold zX10_back
  refine fr_aload_n hg 0 rfl dX10_back_0 rfl ?_
  refine fr_geti hg (q := 0) fo_X10_158 rfl rfl dX10_back_1 rfl ?_
  refine fr_if_ne hg (m := 10) dX10_back_4 (by decide) rfl ?_ ?_
  · refine fr_aload_n hg 0 rfl dX10_back_10 rfl ?_
    refine fr_dup hg rfl dX10_back_11 rfl ?_
    refine fr_geti hg (q := 0) fo_X10_158 rfl rfl dX10_back_12 rfl ?_
    refine fr_iconst hg (v := 1) (by decide) dX10_back_15 rfl ?_
    refine fr_isub hg dX10_back_16 rfl ?_
    refine fr_puti hg (q := 0) fp_X10_158 rfl rfl rfl rfl dX10_back_17 rfl ?_
    refine fr_aload_n hg 0 rfl dX10_back_20 rfl ?_
    refine fr_geti hg (q := 0) fo_X10_158 rfl rfl dX10_back_21 rfl ?_
    exact fr_iret hg (rty := .int) rfl dX10_back_24 (fun h => h)
  · refine fr_bipush hg (v := (-3)) (by decide) dX10_back_7 rfl ?_
    exact fr_iret hg (rty := .int) rfl dX10_back_9 (fun h => h)
