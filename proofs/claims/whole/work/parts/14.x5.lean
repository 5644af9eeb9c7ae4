noncomputable def zX9_state (σ : fr_St) (a1 : Int32) (a2 : Int32) : Option (Int32 × fr_St) :=
  if zX9_within a1 0 (σ 14 2) = 0 then some ((-2), σ) else if zX9_within a2 0 2 = 0 then some ((-2), σ) else if a2 = 0 then (zX9_settled σ).bind (fun p8 => (zX1_secondsBehind p8.2 a1).bind (fun r9 => some (r9, p8.2))) else if a2 = 1 then (zX9_settled σ).bind (fun p5 => (zX1_riskBehind p5.2 a1).bind (fun r6 => some (r6, p5.2))) else (zX9_settled σ).bind (fun p2 => (zX1_doneBehind p2.2 a1).bind (fun r3 => some ((σ 1 5) + r3, p2.2)))
set_option maxRecDepth 100000 in
set_option maxHeartbeats 4000000 in
theorem mX9_state (a1 : Int32) (a2 : Int32) : fr_MI2 yX9_state cX9_state 3 .int 4 88 fr_shX (fun w => [.ref (fr_ad w 0), .int a1, .int a2]) (fun σ => zX9_state σ a1 a2) := by
  refine fr_mkI2 (by decide) (fun w => Nat.le_of_ble_eq_true rfl) (fun g w σ hg => ?_)
  show fr_V g w 3 (zX9_state σ a1 a2) _ 0 [(0, .ref (fr_ad w 0)), (1, .int a1), (2, .int a2)] [] σ
  unfold zX9_state
  refine fr_iload_n hg 1 rfl dX9_state_0 rfl ?_
  refine fr_iconst hg (v := 0) (by decide) dX9_state_1 rfl ?_
  refine fr_aload_n hg 0 rfl dX9_state_2 rfl ?_
  refine fr_getr hg (q := 0) (q' := 14) fo_X9_40 rfl rfl dX9_state_3 rfl ?_
  refine fr_geti hg (q := 14) fo_X9_151 rfl rfl dX9_state_6 rfl ?_
  refine fr_ci0 hg (mX9_within a1 0 (σ 14 2)) (fr_crS hg mo_X9_77 rfl (by decide) (by decide) (Nat.le_of_ble_eq_true rfl) dX9_state_9 rfl) rfl ?_
  refine fr_if_eq hg (m := 24) dX9_state_12 (by decide) rfl ?_ ?_
  · refine fr_bipush hg (v := (-2)) (by decide) dX9_state_24 rfl ?_
    exact fr_iret hg (rty := .int) rfl dX9_state_26 (fun h => h)
  · refine fr_iload_n hg 2 rfl dX9_state_15 rfl ?_
    refine fr_iconst hg (v := 0) (by decide) dX9_state_16 rfl ?_
    refine fr_iconst hg (v := 2) (by decide) dX9_state_17 rfl ?_
    refine fr_ci0 hg (mX9_within a2 0 2) (fr_crS hg mo_X9_77 rfl (by decide) (by decide) (Nat.le_of_ble_eq_true rfl) dX9_state_18 rfl) rfl ?_
    refine fr_if_ne hg (m := 27) dX9_state_21 (by decide) rfl ?_ ?_
    · refine fr_iload_n hg 2 rfl dX9_state_27 rfl ?_
      refine fr_if_ne hg (m := 48) dX9_state_28 (by decide) rfl ?_ ?_
      · refine fr_iload_n hg 2 rfl dX9_state_48 rfl ?_
        refine fr_iconst hg (v := 1) (by decide) dX9_state_49 rfl ?_
        refine fr_icmp_ne hg (m := 70) dX9_state_50 (by decide) rfl ?_ ?_
        · refine fr_aload_n hg 0 rfl dX9_state_70 rfl ?_
          refine fr_getr hg (q := 0) (q' := 1) fo_X9_12 rfl rfl dX9_state_71 rfl ?_
          refine fr_geti hg (q := 1) fo_X9_177 rfl rfl dX9_state_74 rfl ?_
          refine fr_aload_n hg 0 rfl dX9_state_77 rfl ?_
          refine fr_cq2 hg mX9_settled (fr_crV hg (q := 0) mo_X9_155 rfl ⟨_, _, rfl⟩ rfl (by decide) (by decide) (Nat.le_of_ble_eq_true rfl) dX9_state_78 rfl) rfl (fun p2 hp2 => ?_)
          refine fr_iload_n hg 1 rfl dX9_state_81 rfl ?_
          refine fr_ci1 hg (mX1_doneBehind a1) (fr_crV hg (q := 17) mo_X9_180 rfl ⟨_, _, rfl⟩ rfl (by decide) (by decide) (Nat.le_of_ble_eq_true rfl) dX9_state_82 rfl) rfl (fun r3 => ?_)
          refine fr_iadd hg dX9_state_85 rfl ?_
          exact fr_iret hg (rty := .int) rfl dX9_state_86 (fun h => h)
        · refine fr_aload_n hg 0 rfl dX9_state_53 rfl ?_
          refine fr_cq2 hg mX9_settled (fr_crV hg (q := 0) mo_X9_155 rfl ⟨_, _, rfl⟩ rfl (by decide) (by decide) (Nat.le_of_ble_eq_true rfl) dX9_state_54 rfl) rfl (fun p5 hp5 => ?_)
          refine fr_iload_n hg 1 rfl dX9_state_57 rfl ?_
          refine fr_aload_n hg 0 rfl dX9_state_58 rfl ?_
          refine fr_getr hg (q := 0) (q' := 14) fo_X9_40 rfl rfl dX9_state_59 rfl ?_
          refine fr_aload_n hg 0 rfl dX9_state_62 rfl ?_
          refine fr_getr hg (q := 0) (q' := 1) fo_X9_12 rfl rfl dX9_state_63 rfl ?_
          refine fr_ci1 hg (mX1_riskBehind a1) (fr_crV hg (q := 17) mo_X9_173 rfl ⟨_, _, rfl⟩ rfl (by decide) (by decide) (Nat.le_of_ble_eq_true rfl) dX9_state_66 rfl) rfl (fun r6 => ?_)
          exact fr_iret hg (rty := .int) rfl dX9_state_69 (fun h => h)
      · refine fr_aload_n hg 0 rfl dX9_state_31 rfl ?_
        refine fr_cq2 hg mX9_settled (fr_crV hg (q := 0) mo_X9_155 rfl ⟨_, _, rfl⟩ rfl (by decide) (by decide) (Nat.le_of_ble_eq_true rfl) dX9_state_32 rfl) rfl (fun p8 hp8 => ?_)
        refine fr_iload_n hg 1 rfl dX9_state_35 rfl ?_
        refine fr_aload_n hg 0 rfl dX9_state_36 rfl ?_
        refine fr_getr hg (q := 0) (q' := 14) fo_X9_40 rfl rfl dX9_state_37 rfl ?_
        refine fr_aload_n hg 0 rfl dX9_state_40 rfl ?_
        refine fr_getr hg (q := 0) (q' := 9) fo_X9_26 rfl rfl dX9_state_41 rfl ?_
        refine fr_ci1 hg (mX1_secondsBehind a1) (fr_crV hg (q := 17) mo_X9_169 rfl ⟨_, _, rfl⟩ rfl (by decide) (by decide) (Nat.le_of_ble_eq_true rfl) dX9_state_44 rfl) rfl (fun r9 => ?_)
        exact fr_iret hg (rty := .int) rfl dX9_state_47 (fun h => h)
    · refine fr_bipush hg (v := (-2)) (by decide) dX9_state_24 rfl ?_
      exact fr_iret hg (rty := .int) rfl dX9_state_26 (fun h => h)
noncomputable def zX9_left (σ : fr_St) (a1 : Int32) : Option (Int32 × fr_St) :=
  if zX9_isTool a1 = 0 then some ((-2), σ) else (zX9_settled σ).bind (fun p2 => (fr_al 4 p2.2 20 a1).bind (fun x3 => some (x3, p2.2)))
set_option maxRecDepth 100000 in
set_option maxHeartbeats 4000000 in
theorem mX9_left (a1 : Int32) : fr_MI2 yX9_left cX9_left 2 .int 4 88 fr_shX (fun w => [.ref (fr_ad w 0), .int a1]) (fun σ => zX9_left σ a1) := by
  refine fr_mkI2 (by decide) (fun w => Nat.le_of_ble_eq_true rfl) (fun g w σ hg => ?_)
  show fr_V g w 2 (zX9_left σ a1) _ 0 [(0, .ref (fr_ad w 0)), (1, .int a1)] [] σ
  unfold zX9_left
  refine fr_iload_n hg 1 rfl dX9_left_0 rfl ?_
  refine fr_ci0 hg (mX9_isTool a1) (fr_crS hg mo_X9_105 rfl (by decide) (by decide) (Nat.le_of_ble_eq_true rfl) dX9_left_1 rfl) rfl ?_
  refine fr_if_ne hg (m := 10) dX9_left_4 (by decide) rfl ?_ ?_
  · refine fr_aload_n hg 0 rfl dX9_left_10 rfl ?_
    refine fr_cq2 hg mX9_settled (fr_crV hg (q := 0) mo_X9_155 rfl ⟨_, _, rfl⟩ rfl (by decide) (by decide) (Nat.le_of_ble_eq_true rfl) dX9_left_11 rfl) rfl (fun p2 hp2 => ?_)
    refine fr_getr hg (q := 17) (q' := 20) fo_X9_183 rfl rfl dX9_left_14 rfl ?_
    refine fr_iload_n hg 1 rfl dX9_left_17 rfl ?_
    refine fr_iaload hg (q := 20) rfl dX9_left_18 rfl (fun x3 => ?_)
    exact fr_iret hg (rty := .int) rfl dX9_left_19 (fun h => h)
  · refine fr_bipush hg (v := (-2)) (by decide) dX9_left_7 rfl ?_
    exact fr_iret hg (rty := .int) rfl dX9_left_9 (fun h => h)
def zX9_isStretch (σ : fr_St) (a1 : Int32) : Int32 :=
  zX9_within a1 0 ((σ 7 3) - 1)
theorem zbX9_isStretch (σ : fr_St) (a1 : Int32) : zX9_isStretch σ a1 = 0 ∨ zX9_isStretch σ a1 = 1 := by
  unfold zX9_isStretch
  first | exact zbX9_within a1 0 ((σ 7 3) - 1) | ((repeat' split) <;> first | exact Or.inl rfl | exact Or.inr rfl)
set_option maxRecDepth 100000 in
set_option maxHeartbeats 4000000 in
theorem mX9_isStretch (a1 : Int32) : fr_MI0 yX9_isStretch cX9_isStretch 2 .boolean 1 22 fr_shX (fun w => [.ref (fr_ad w 0), .int a1]) (fun σ => zX9_isStretch σ a1) := by
  refine fr_mkI0 (by decide) (fun w => Nat.le_of_ble_eq_true rfl) (fun g w σ hg => ?_)
  show fr_V g w 2 (some (zX9_isStretch σ a1)) _ 0 [(0, .ref (fr_ad w 0)), (1, .int a1)] [] σ
  unfold zX9_isStretch
  refine fr_iload_n hg 1 rfl dX9_isStretch_0 rfl ?_
  refine fr_iconst hg (v := 0) (by decide) dX9_isStretch_1 rfl ?_
  refine fr_aload_n hg 0 rfl dX9_isStretch_2 rfl ?_
  refine fr_getr hg (q := 0) (q' := 7) fo_X9_19 rfl rfl dX9_isStretch_3 rfl ?_
  refine fr_geti hg (q := 7) fo_X9_282 rfl rfl dX9_isStretch_6 rfl ?_
  refine fr_iconst hg (v := 1) (by decide) dX9_isStretch_9 rfl ?_
  refine fr_isub hg dX9_isStretch_10 rfl ?_
  refine fr_ci0 hg (mX9_within a1 0 ((σ 7 3) - 1)) (fr_crS hg mo_X9_77 rfl (by decide) (by decide) (Nat.le_of_ble_eq_true rfl) dX9_isStretch_11 rfl) rfl ?_
  exact fr_iret hg (rty := .boolean) (fr_nb (zbX9_within a1 0 ((σ 7 3) - 1))) dX9_isStretch_14 (fun h => h)
noncomputable def zX3_kindAt (σ : fr_St) (a1 : Int32) : Option (Int32) :=
  if zX9_within a1 0 ((σ 7 3) - 1) = 0 then some (-1) else (fr_al 40 σ 5 a1).bind (fun x1 => some (zX3_kindOf x1))
set_option maxRecDepth 100000 in
set_option maxHeartbeats 4000000 in
theorem mX3_kindAt (a1 : Int32) : fr_MI1 yX3_kindAt cX3_kindAt 2 .int 1 22 fr_shX (fun w => [.ref (fr_ad w 7), .int a1]) (fun σ => zX3_kindAt σ a1) := by
  refine fr_mkI1 (by decide) (fun w => Nat.le_of_ble_eq_true rfl) (fun g w σ hg => ?_)
  show fr_V g w 2 (zX3_kindAt σ a1) _ 0 [(0, .ref (fr_ad w 7)), (1, .int a1)] [] σ
  unfold zX3_kindAt
  refine fr_iload_n hg 1 rfl dX3_kindAt_0 rfl ?_
  refine fr_iconst hg (v := 0) (by decide) dX3_kindAt_1 rfl ?_
  refine fr_aload_n hg 0 rfl dX3_kindAt_2 rfl ?_
  refine fr_geti hg (q := 7) fo_X3_28 rfl rfl dX3_kindAt_3 rfl ?_
  refine fr_iconst hg (v := 1) (by decide) dX3_kindAt_6 rfl ?_
  refine fr_isub hg dX3_kindAt_7 rfl ?_
  refine fr_ci0 hg (mX9_within a1 0 ((σ 7 3) - 1)) (fr_crN hg mo_X3_51 rfl (by decide) (by decide) (Nat.le_of_ble_eq_true rfl) dX3_kindAt_8 rfl) rfl ?_
  refine fr_if_eq hg (m := 29) dX3_kindAt_11 (by decide) rfl ?_ ?_
  · refine fr_iconst hg (v := (-1)) (by decide) dX3_kindAt_29 rfl ?_
    exact fr_iret hg (rty := .int) rfl dX3_kindAt_30 (fun h => h)
  · refine fr_aload_n hg 0 rfl dX3_kindAt_14 rfl ?_
    refine fr_getr hg (q := 7) (q' := 3) fo_X3_14 rfl rfl dX3_kindAt_15 rfl ?_
    refine fr_getr hg (q := 3) (q' := 5) fo_X3_40 rfl rfl dX3_kindAt_18 rfl ?_
    refine fr_iload_n hg 1 rfl dX3_kindAt_21 rfl ?_
    refine fr_iaload hg (q := 5) rfl dX3_kindAt_22 rfl (fun x1 => ?_)
    refine fr_ci0 hg (mX3_kindOf x1) (fr_crS hg mo_X3_43 rfl (by decide) (by decide) (Nat.le_of_ble_eq_true rfl) dX3_kindAt_23 rfl) rfl ?_
    refine fr_goto hg (n := 30) dX3_kindAt_26 (by decide) ?_
    exact fr_iret hg (rty := .int) rfl dX3_kindAt_30 (fun h => h)
noncomputable def zX1_riskOfKind_L5 (σ : fr_St) (k1 : Int32) (v3 : Int32) (v4 : Int32) : Option ((Int32 × Int32) ⊕ (Int32)) :=
  if 32 ≤ v4 then some (.inr v3) else if zX9_isKind k1 = 0 then some (.inr v3) else (fr_al 32 σ 19 v4).bind (fun x1 => if x1 ≤ 0 then some (.inl (v3 + 0, v4 + 1)) else (fr_al 160 σ 13 ((k1 * 32) + v4)).bind (fun x2 => some (.inl (v3 + x2, v4 + 1))))
noncomputable def zX1_riskOfKind (σ : fr_St) (a1 : Int32) : Option (Int32) :=
  (fr_loop (fun (b1 : Int32 × Int32) => zX1_riskOfKind_L5 σ a1 b1.1 b1.2) fr_fu (0, 0)).bind (fun (c2 : Int32) => some c2)
set_option maxRecDepth 100000 in
set_option maxHeartbeats 4000000 in
theorem mX1_riskOfKind (a1 : Int32) : fr_MI1 yX1_riskOfKind cX1_riskOfKind 5 .int 2 42 fr_shX (fun w => [.ref (fr_ad w 17), .int a1, .ref (fr_ad w 12)]) (fun σ => zX1_riskOfKind σ a1) := by
  refine fr_mkI1 (by decide) (fun w => Nat.le_of_ble_eq_true rfl) (fun g w σ hg => ?_)
  show fr_V g w 5 (zX1_riskOfKind σ a1) _ 0 [(0, .ref (fr_ad w 17)), (1, .int a1), (2, .ref (fr_ad w 12))] [] σ
  unfold zX1_riskOfKind
  refine fr_iconst hg (v := 0) (by decide) dX1_riskOfKind_0 rfl ?_
  refine fr_istore_n hg (ls' := [(0, .ref (fr_ad w 17)), (1, .int a1), (2, .ref (fr_ad w 12)), (3, .int 0)]) dX1_riskOfKind_1 rfl (by decide) rfl rfl ?_
  refine fr_iconst hg (v := 0) (by decide) dX1_riskOfKind_2 rfl ?_
  refine fr_istore hg (ls' := [(0, .ref (fr_ad w 17)), (1, .int a1), (2, .ref (fr_ad w 12)), (3, .int 0), (4, .int 0)]) dX1_riskOfKind_3 (by decide) rfl rfl ?_
  refine fr_lp (fun (b1 : Int32 × Int32) => [(0, .ref (fr_ad w 17)), (1, .int a1), (2, .ref (fr_ad w 12)), (3, .int b1.1), (4, .int b1.2)]) (fun b1 => σ) 54 (fun (c2 : Int32) => [(3, .int c2)]) (fun c2 => σ) [0, 1, 2, 3, 4] rfl rfl (fun b1 => ?_) (fun c2 => ?_)
  · show fr_V g w _ (zX1_riskOfKind_L5 σ a1 b1.1 b1.2) _ _ _ _ _
    unfold zX1_riskOfKind_L5
    refine fr_iload hg 4 rfl dX1_riskOfKind_5 rfl ?_
    refine fr_bipush hg (v := 32) (by decide) dX1_riskOfKind_7 rfl ?_
    refine fr_icmp_ge hg (m := 54) dX1_riskOfKind_9 (by decide) rfl ?_ ?_
    · exact fr_leaf [3] rfl (fun h => h)
    · refine fr_iload_n hg 1 rfl dX1_riskOfKind_12 rfl ?_
      refine fr_ci0 hg (mX9_isKind a1) (fr_crN hg mo_X1_98 rfl (by decide) (by decide) (Nat.le_of_ble_eq_true rfl) dX1_riskOfKind_13 rfl) rfl ?_
      refine fr_if_eq hg (m := 54) dX1_riskOfKind_16 (by decide) rfl ?_ ?_
      · exact fr_leaf [3] rfl (fun h => h)
      · refine fr_iload_n hg 3 rfl dX1_riskOfKind_19 rfl ?_
        refine fr_aload_n hg 0 rfl dX1_riskOfKind_20 rfl ?_
        refine fr_getr hg (q := 17) (q' := 19) fo_X1_15 rfl rfl dX1_riskOfKind_21 rfl ?_
        refine fr_iload hg 4 rfl dX1_riskOfKind_24 rfl ?_
        refine fr_iaload hg (q := 19) rfl dX1_riskOfKind_26 rfl (fun x3 => ?_)
        refine fr_if_le hg (m := 45) dX1_riskOfKind_27 (by decide) rfl ?_ ?_
        · refine fr_iconst hg (v := 0) (by decide) dX1_riskOfKind_45 rfl ?_
          refine fr_iadd hg dX1_riskOfKind_46 rfl ?_
          refine fr_istore_n hg (ls' := [(0, .ref (fr_ad w 17)), (1, .int a1), (2, .ref (fr_ad w 12)), (3, .int (b1.1 + 0)), (4, .int b1.2)]) dX1_riskOfKind_47 rfl (by decide) rfl rfl ?_
          refine fr_iinc hg 4 (v := b1.2 + 1) (ls' := [(0, .ref (fr_ad w 17)), (1, .int a1), (2, .ref (fr_ad w 12)), (3, .int (b1.1 + 0)), (4, .int (b1.2 + 1))]) dX1_riskOfKind_48 rfl rfl (by decide) rfl rfl ?_
          refine fr_goto hg (n := 5) dX1_riskOfKind_51 (by decide) ?_
          exact fr_leaf [0, 1, 2, 3, 4] rfl (fun h => h)
        · refine fr_aload_n hg 2 rfl dX1_riskOfKind_30 rfl ?_
          refine fr_getr hg (q := 12) (q' := 13) fo_X1_82 rfl rfl dX1_riskOfKind_31 rfl ?_
          refine fr_iload_n hg 1 rfl dX1_riskOfKind_34 rfl ?_
          refine fr_bipush hg (v := 32) (by decide) dX1_riskOfKind_35 rfl ?_
          refine fr_imul hg dX1_riskOfKind_37 rfl ?_
          refine fr_iload hg 4 rfl dX1_riskOfKind_38 rfl ?_
          refine fr_iadd hg dX1_riskOfKind_40 rfl ?_
          refine fr_iaload hg (q := 13) rfl dX1_riskOfKind_41 rfl (fun x4 => ?_)
          refine fr_goto hg (n := 46) dX1_riskOfKind_42 (by decide) ?_
          refine fr_iadd hg dX1_riskOfKind_46 rfl ?_
          refine fr_istore_n hg (ls' := [(0, .ref (fr_ad w 17)), (1, .int a1), (2, .ref (fr_ad w 12)), (3, .int (b1.1 + x4)), (4, .int b1.2)]) dX1_riskOfKind_47 rfl (by decide) rfl rfl ?_
          refine fr_iinc hg 4 (v := b1.2 + 1) (ls' := [(0, .ref (fr_ad w 17)), (1, .int a1), (2, .ref (fr_ad w 12)), (3, .int (b1.1 + x4)), (4, .int (b1.2 + 1))]) dX1_riskOfKind_48 rfl rfl (by decide) rfl rfl ?_
          refine fr_goto hg (n := 5) dX1_riskOfKind_51 (by decide) ?_
          exact fr_leaf [0, 1, 2, 3, 4] rfl (fun h => h)
  refine fr_iload_n hg 0 rfl dX1_riskOfKind_54 rfl ?_
  exact fr_iret hg (rty := .int) rfl dX1_riskOfKind_55 (fun h => h)
noncomputable def zX9_risk (σ : fr_St) (a1 : Int32) : Option (Int32 × fr_St) :=
  if zX9_isStretch σ a1 = 0 then some ((-2), σ) else (zX9_settled σ).bind (fun p2 => (zX3_kindAt p2.2 a1).bind (fun r3 => (zX1_riskOfKind p2.2 r3).bind (fun r4 => some (r4, p2.2))))
set_option maxRecDepth 100000 in
set_option maxHeartbeats 4000000 in
theorem mX9_risk (a1 : Int32) : fr_MI2 yX9_risk cX9_risk 2 .int 4 88 fr_shX (fun w => [.ref (fr_ad w 0), .int a1]) (fun σ => zX9_risk σ a1) := by
  refine fr_mkI2 (by decide) (fun w => Nat.le_of_ble_eq_true rfl) (fun g w σ hg => ?_)
  show fr_V g w 2 (zX9_risk σ a1) _ 0 [(0, .ref (fr_ad w 0)), (1, .int a1)] [] σ
  unfold zX9_risk
  refine fr_aload_n hg 0 rfl dX9_risk_0 rfl ?_
  refine fr_iload_n hg 1 rfl dX9_risk_1 rfl ?_
  refine fr_ci0 hg (mX9_isStretch a1) (fr_crV hg (q := 0) mo_X9_186 rfl ⟨_, _, rfl⟩ rfl (by decide) (by decide) (Nat.le_of_ble_eq_true rfl) dX9_risk_2 rfl) rfl ?_
  refine fr_if_ne hg (m := 11) dX9_risk_5 (by decide) rfl ?_ ?_
  · refine fr_aload_n hg 0 rfl dX9_risk_11 rfl ?_
    refine fr_cq2 hg mX9_settled (fr_crV hg (q := 0) mo_X9_155 rfl ⟨_, _, rfl⟩ rfl (by decide) (by decide) (Nat.le_of_ble_eq_true rfl) dX9_risk_12 rfl) rfl (fun p2 hp2 => ?_)
    refine fr_aload_n hg 0 rfl dX9_risk_15 rfl ?_
    refine fr_getr hg (q := 0) (q' := 7) fo_X9_19 rfl rfl dX9_risk_16 rfl ?_
    refine fr_iload_n hg 1 rfl dX9_risk_19 rfl ?_
    refine fr_ci1 hg (mX3_kindAt a1) (fr_crV hg (q := 7) mo_X9_189 rfl ⟨_, _, rfl⟩ rfl (by decide) (by decide) (Nat.le_of_ble_eq_true rfl) dX9_risk_20 rfl) rfl (fun r3 => ?_)
    refine fr_aload_n hg 0 rfl dX9_risk_23 rfl ?_
    refine fr_getr hg (q := 0) (q' := 12) fo_X9_33 rfl rfl dX9_risk_24 rfl ?_
    refine fr_ci1 hg (mX1_riskOfKind r3) (fr_crV hg (q := 17) mo_X9_192 rfl ⟨_, _, rfl⟩ rfl (by decide) (by decide) (Nat.le_of_ble_eq_true rfl) dX9_risk_27 rfl) rfl (fun r4 => ?_)
    exact fr_iret hg (rty := .int) rfl dX9_risk_30 (fun h => h)
  · refine fr_bipush hg (v := (-2)) (by decide) dX9_risk_8 rfl ?_
    exact fr_iret hg (rty := .int) rfl dX9_risk_10 (fun h => h)
noncomputable def zX9_all (σ : fr_St) (a1 : Int32) : Option (Int32 × fr_St) :=
  if zX9_isTool a1 = 0 then some ((-2), σ) else (zX9_settled σ).bind (fun p2 => (fr_al 4 p2.2 10 a1).bind (fun x3 => some ((p2.2 17 7) * x3, p2.2)))
set_option maxRecDepth 100000 in
set_option maxHeartbeats 4000000 in
theorem mX9_all (a1 : Int32) : fr_MI2 yX9_all cX9_all 2 .int 4 88 fr_shX (fun w => [.ref (fr_ad w 0), .int a1]) (fun σ => zX9_all σ a1) := by
  refine fr_mkI2 (by decide) (fun w => Nat.le_of_ble_eq_true rfl) (fun g w σ hg => ?_)
  show fr_V g w 2 (zX9_all σ a1) _ 0 [(0, .ref (fr_ad w 0)), (1, .int a1)] [] σ
  unfold zX9_all
  refine fr_iload_n hg 1 rfl dX9_all_0 rfl ?_
  refine fr_ci0 hg (mX9_isTool a1) (fr_crS hg mo_X9_105 rfl (by decide) (by decide) (Nat.le_of_ble_eq_true rfl) dX9_all_1 rfl) rfl ?_
  refine fr_if_ne hg (m := 10) dX9_all_4 (by decide) rfl ?_ ?_
  · refine fr_aload_n hg 0 rfl dX9_all_10 rfl ?_
    refine fr_cq2 hg mX9_settled (fr_crV hg (q := 0) mo_X9_155 rfl ⟨_, _, rfl⟩ rfl (by decide) (by decide) (Nat.le_of_ble_eq_true rfl) dX9_all_11 rfl) rfl (fun p2 hp2 => ?_)
    refine fr_geti hg (q := 17) fo_X9_196 rfl rfl dX9_all_14 rfl ?_
    refine fr_aload_n hg 0 rfl dX9_all_17 rfl ?_
    refine fr_getr hg (q := 0) (q' := 9) fo_X9_26 rfl rfl dX9_all_18 rfl ?_
    refine fr_getr hg (q := 9) (q' := 10) fo_X9_111 rfl rfl dX9_all_21 rfl ?_
    refine fr_iload_n hg 1 rfl dX9_all_24 rfl ?_
    refine fr_iaload hg (q := 10) rfl dX9_all_25 rfl (fun x3 => ?_)
    refine fr_imul hg dX9_all_26 rfl ?_
    exact fr_iret hg (rty := .int) rfl dX9_all_27 (fun h => h)
  · refine fr_bipush hg (v := (-2)) (by decide) dX9_all_7 rfl ?_
    exact fr_iret hg (rty := .int) rfl dX9_all_9 (fun h => h)
noncomputable def zX9_first (σ : fr_St) (a1 : Int32) (a2 : Int32) : Option (Int32 × fr_St) :=
  if zX9_isTool a1 = 0 then some ((-2), σ) else if zX9_within a2 (-1) 31 = 0 then some ((-2), σ) else (zX9_settled σ).bind (fun p2 => if a2 = (-1) then some (p2.2 17 6, p2.2) else if p2.2 17 6 ≤ a2 then some ((-1), p2.2) else (fr_al 32 p2.2 22 a2).bind (fun x3 => some (x3, p2.2)))
set_option maxRecDepth 100000 in
set_option maxHeartbeats 4000000 in
theorem mX9_first (a1 : Int32) (a2 : Int32) : fr_MI2 yX9_first cX9_first 4 .int 4 88 fr_shX (fun w => [.ref (fr_ad w 0), .int a1, .int a2]) (fun σ => zX9_first σ a1 a2) := by
  refine fr_mkI2 (by decide) (fun w => Nat.le_of_ble_eq_true rfl) (fun g w σ hg => ?_)
  show fr_V g w 4 (zX9_first σ a1 a2) _ 0 [(0, .ref (fr_ad w 0)), (1, .int a1), (2, .int a2)] [] σ
  unfold zX9_first
  refine fr_iload_n hg 1 rfl dX9_first_0 rfl ?_
  refine fr_ci0 hg (mX9_isTool a1) (fr_crS hg mo_X9_105 rfl (by decide) (by decide) (Nat.le_of_ble_eq_true rfl) dX9_first_1 rfl) rfl ?_
  refine fr_if_eq hg (m := 17) dX9_first_4 (by decide) rfl ?_ ?_
  · refine fr_bipush hg (v := (-2)) (by decide) dX9_first_17 rfl ?_
    exact fr_iret hg (rty := .int) rfl dX9_first_19 (fun h => h)
  · refine fr_iload_n hg 2 rfl dX9_first_7 rfl ?_
    refine fr_iconst hg (v := (-1)) (by decide) dX9_first_8 rfl ?_
    refine fr_bipush hg (v := 31) (by decide) dX9_first_9 rfl ?_
    refine fr_ci0 hg (mX9_within a2 (-1) 31) (fr_crS hg mo_X9_77 rfl (by decide) (by decide) (Nat.le_of_ble_eq_true rfl) dX9_first_11 rfl) rfl ?_
    refine fr_if_ne hg (m := 20) dX9_first_14 (by decide) rfl ?_ ?_
    · refine fr_aload_n hg 0 rfl dX9_first_20 rfl ?_
      refine fr_cq2 hg mX9_settled (fr_crV hg (q := 0) mo_X9_155 rfl ⟨_, _, rfl⟩ rfl (by decide) (by decide) (Nat.le_of_ble_eq_true rfl) dX9_first_21 rfl) rfl (fun p2 hp2 => ?_)
      refine fr_astore_n hg (ls' := [(0, .ref (fr_ad w 0)), (1, .int a1), (2, .int a2), (3, .ref (fr_ad w 17))]) dX9_first_24 rfl (by decide) rfl rfl ?_
      refine fr_iload_n hg 2 rfl dX9_first_25 rfl ?_
      refine fr_iconst hg (v := (-1)) (by decide) dX9_first_26 rfl ?_
      refine fr_icmp_ne hg (m := 35) dX9_first_27 (by decide) rfl ?_ ?_
      · refine fr_iload_n hg 2 rfl dX9_first_35 rfl ?_
        refine fr_aload_n hg 3 rfl dX9_first_36 rfl ?_
        refine fr_geti hg (q := 17) fo_X9_199 rfl rfl dX9_first_37 rfl ?_
        refine fr_icmp_ge hg (m := 52) dX9_first_40 (by decide) rfl ?_ ?_
        · refine fr_iconst hg (v := (-1)) (by decide) dX9_first_52 rfl ?_
          exact fr_iret hg (rty := .int) rfl dX9_first_53 (fun h => h)
        · refine fr_aload_n hg 3 rfl dX9_first_43 rfl ?_
          refine fr_getr hg (q := 17) (q' := 22) fo_X9_202 rfl rfl dX9_first_44 rfl ?_
          refine fr_iload_n hg 2 rfl dX9_first_47 rfl ?_
          refine fr_iaload hg (q := 22) rfl dX9_first_48 rfl (fun x3 => ?_)
          refine fr_goto hg (n := 53) dX9_first_49 (by decide) ?_
          exact fr_iret hg (rty := .int) rfl dX9_first_53 (fun h => h)
      · refine fr_aload_n hg 3 rfl dX9_first_30 rfl ?_
        refine fr_geti hg (q := 17) fo_X9_199 rfl rfl dX9_first_31 rfl ?_
        exact fr_iret hg (rty := .int) rfl dX9_first_34 (fun h => h)
    · refine fr_bipush hg (v := (-2)) (by decide) dX9_first_17 rfl ?_
      exact fr_iret hg (rty := .int) rfl dX9_first_19 (fun h => h)
noncomputable def zX1_changeAt (σ : fr_St) (a1 : Int32) (a2 : Int32) (a3 : Int32) : Option (Int32) :=
  (fr_al 32 σ 19 a1).bind (fun x1 => (fr_al 32 σ 21 a1).bind (fun x2 => some ((a2 * x1) - (a3 * x2))))
set_option maxRecDepth 100000 in
set_option maxHeartbeats 4000000 in
theorem mX1_changeAt (a1 : Int32) (a2 : Int32) (a3 : Int32) : fr_MI1 yX1_changeAt cX1_changeAt 4 .int 0 0 fr_shX (fun w => [.ref (fr_ad w 17), .int a1, .int a2, .int a3]) (fun σ => zX1_changeAt σ a1 a2 a3) := by
  refine fr_mkI1 (by decide) (fun w => Nat.le_of_ble_eq_true rfl) (fun g w σ hg => ?_)
  show fr_V g w 4 (zX1_changeAt σ a1 a2 a3) _ 0 [(0, .ref (fr_ad w 17)), (1, .int a1), (2, .int a2), (3, .int a3)] [] σ
  unfold zX1_changeAt
  refine fr_iload_n hg 2 rfl dX1_changeAt_0 rfl ?_
  refine fr_aload_n hg 0 rfl dX1_changeAt_1 rfl ?_
  refine fr_getr hg (q := 17) (q' := 19) fo_X1_15 rfl rfl dX1_changeAt_2 rfl ?_
  refine fr_iload_n hg 1 rfl dX1_changeAt_5 rfl ?_
  refine fr_iaload hg (q := 19) rfl dX1_changeAt_6 rfl (fun x1 => ?_)
  refine fr_imul hg dX1_changeAt_7 rfl ?_
  refine fr_iload_n hg 3 rfl dX1_changeAt_8 rfl ?_
  refine fr_aload_n hg 0 rfl dX1_changeAt_9 rfl ?_
  refine fr_getr hg (q := 17) (q' := 21) fo_X1_21 rfl rfl dX1_changeAt_10 rfl ?_
  refine fr_iload_n hg 1 rfl dX1_changeAt_13 rfl ?_
  refine fr_iaload hg (q := 21) rfl dX1_changeAt_14 rfl (fun x2 => ?_)
  refine fr_imul hg dX1_changeAt_15 rfl ?_
  refine fr_isub hg dX1_changeAt_16 rfl ?_
  exact fr_iret hg (rty := .int) rfl dX1_changeAt_17 (fun h => h)
noncomputable def zX1_cheapestStop_L11 (σ : fr_St) (k1 : Int32) (k2 : Int32) (v3 : Int32) (v4 : Int32) (v5 : Int32) (v6 : Int32) : Option ((Int32 × Int32 × Int32 × Int32) ⊕ (Int32)) :=
  if σ 17 6 ≤ v6 then some (.inr v3) else (fr_al 32 σ 22 v6).bind (fun x1 => (zX1_changeAt σ x1 k1 k2).bind (fun r2 => if v4 ≤ v5 + r2 then some (.inl (v3, v4, v5 + r2, v6 + 1)) else some (.inl (v6 + 1, v5 + r2, v5 + r2, v6 + 1))))
noncomputable def zX1_cheapestStop (σ : fr_St) (a1 : Int32) (a2 : Int32) : Option (Int32) :=
  (fr_loop (fun (b1 : Int32 × Int32 × Int32 × Int32) => zX1_cheapestStop_L11 σ a1 a2 b1.1 b1.2.1 b1.2.2.1 b1.2.2.2) fr_fu (0, 0, 0, 0)).bind (fun (c2 : Int32) => some c2)
set_option maxRecDepth 100000 in
set_option maxHeartbeats 4000000 in
theorem mX1_cheapestStop (a1 : Int32) (a2 : Int32) : fr_MI1 yX1_cheapestStop cX1_cheapestStop 7 .int 1 23 fr_shX (fun w => [.ref (fr_ad w 17), .int a1, .int a2]) (fun σ => zX1_cheapestStop σ a1 a2) := by
  refine fr_mkI1 (by decide) (fun w => Nat.le_of_ble_eq_true rfl) (fun g w σ hg => ?_)
  show fr_V g w 7 (zX1_cheapestStop σ a1 a2) _ 0 [(0, .ref (fr_ad w 17)), (1, .int a1), (2, .int a2)] [] σ
  unfold zX1_cheapestStop
  refine fr_iconst hg (v := 0) (by decide) dX1_cheapestStop_0 rfl ?_
  refine fr_istore_n hg (ls' := [(0, .ref (fr_ad w 17)), (1, .int a1), (2, .int a2), (3, .int 0)]) dX1_cheapestStop_1 rfl (by decide) rfl rfl ?_
  refine fr_iconst hg (v := 0) (by decide) dX1_cheapestStop_2 rfl ?_
  refine fr_istore hg (ls' := [(0, .ref (fr_ad w 17)), (1, .int a1), (2, .int a2), (3, .int 0), (4, .int 0)]) dX1_cheapestStop_3 (by decide) rfl rfl ?_
  refine fr_iconst hg (v := 0) (by decide) dX1_cheapestStop_5 rfl ?_
  refine fr_istore hg (ls' := [(0, .ref (fr_ad w 17)), (1, .int a1), (2, .int a2), (3, .int 0), (4, .int 0), (5, .int 0)]) dX1_cheapestStop_6 (by decide) rfl rfl ?_
  refine fr_iconst hg (v := 0) (by decide) dX1_cheapestStop_8 rfl ?_
  refine fr_istore hg (ls' := [(0, .ref (fr_ad w 17)), (1, .int a1), (2, .int a2), (3, .int 0), (4, .int 0), (5, .int 0), (6, .int 0)]) dX1_cheapestStop_9 (by decide) rfl rfl ?_
  refine fr_lp (fun (b1 : Int32 × Int32 × Int32 × Int32) => [(0, .ref (fr_ad w 17)), (1, .int a1), (2, .int a2), (3, .int b1.1), (4, .int b1.2.1), (5, .int b1.2.2.1), (6, .int b1.2.2.2)]) (fun b1 => σ) 60 (fun (c2 : Int32) => [(3, .int c2)]) (fun c2 => σ) [0, 1, 2, 3, 4, 5, 6] rfl rfl (fun b1 => ?_) (fun c2 => ?_)
  · show fr_V g w _ (zX1_cheapestStop_L11 σ a1 a2 b1.1 b1.2.1 b1.2.2.1 b1.2.2.2) _ _ _ _ _
    unfold zX1_cheapestStop_L11
    refine fr_iload hg 6 rfl dX1_cheapestStop_11 rfl ?_
    refine fr_aload_n hg 0 rfl dX1_cheapestStop_13 rfl ?_
    refine fr_geti hg (q := 17) fo_X1_30 rfl rfl dX1_cheapestStop_14 rfl ?_
    refine fr_icmp_ge hg (m := 60) dX1_cheapestStop_17 (by decide) rfl ?_ ?_
    · exact fr_leaf [3] rfl (fun h => h)
    · refine fr_iload hg 5 rfl dX1_cheapestStop_20 rfl ?_
      refine fr_aload_n hg 0 rfl dX1_cheapestStop_22 rfl ?_
      refine fr_aload_n hg 0 rfl dX1_cheapestStop_23 rfl ?_
      refine fr_getr hg (q := 17) (q' := 22) fo_X1_24 rfl rfl dX1_cheapestStop_24 rfl ?_
      refine fr_iload hg 6 rfl dX1_cheapestStop_27 rfl ?_
      refine fr_iaload hg (q := 22) rfl dX1_cheapestStop_29 rfl (fun x3 => ?_)
      refine fr_iload_n hg 1 rfl dX1_cheapestStop_30 rfl ?_
      refine fr_iload_n hg 2 rfl dX1_cheapestStop_31 rfl ?_
      refine fr_ci1 hg (mX1_changeAt x3 a1 a2) (fr_crV hg (q := 17) mo_X1_101 rfl ⟨_, _, rfl⟩ rfl (by decide) (by decide) (Nat.le_of_ble_eq_true rfl) dX1_cheapestStop_32 rfl) rfl (fun r4 => ?_)
      refine fr_iadd hg dX1_cheapestStop_35 rfl ?_
      refine fr_istore hg (ls' := [(0, .ref (fr_ad w 17)), (1, .int a1), (2, .int a2), (3, .int b1.1), (4, .int b1.2.1), (5, .int (b1.2.2.1 + r4)), (6, .int b1.2.2.2)]) dX1_cheapestStop_36 (by decide) rfl rfl ?_
      refine fr_iload hg 5 rfl dX1_cheapestStop_38 rfl ?_
      refine fr_iload hg 4 rfl dX1_cheapestStop_40 rfl ?_
      refine fr_icmp_ge hg (m := 54) dX1_cheapestStop_42 (by decide) rfl ?_ ?_
      · refine fr_iinc hg 6 (v := b1.2.2.2 + 1) (ls' := [(0, .ref (fr_ad w 17)), (1, .int a1), (2, .int a2), (3, .int b1.1), (4, .int b1.2.1), (5, .int (b1.2.2.1 + r4)), (6, .int (b1.2.2.2 + 1))]) dX1_cheapestStop_54 rfl rfl (by decide) rfl rfl ?_
        refine fr_goto hg (n := 11) dX1_cheapestStop_57 (by decide) ?_
        exact fr_leaf [0, 1, 2, 3, 4, 5, 6] rfl (fun h => h)
      · refine fr_iload hg 5 rfl dX1_cheapestStop_45 rfl ?_
        refine fr_istore hg (ls' := [(0, .ref (fr_ad w 17)), (1, .int a1), (2, .int a2), (3, .int b1.1), (4, .int (b1.2.2.1 + r4)), (5, .int (b1.2.2.1 + r4)), (6, .int b1.2.2.2)]) dX1_cheapestStop_47 (by decide) rfl rfl ?_
        refine fr_iload hg 6 rfl dX1_cheapestStop_49 rfl ?_
        refine fr_iconst hg (v := 1) (by decide) dX1_cheapestStop_51 rfl ?_
        refine fr_iadd hg dX1_cheapestStop_52 rfl ?_
        refine fr_istore_n hg (ls' := [(0, .ref (fr_ad w 17)), (1, .int a1), (2, .int a2), (3, .int (b1.2.2.2 + 1)), (4, .int (b1.2.2.1 + r4)), (5, .int (b1.2.2.1 + r4)), (6, .int b1.2.2.2)]) dX1_cheapestStop_53 rfl (by decide) rfl rfl ?_
        refine fr_iinc hg 6 (v := b1.2.2.2 + 1) (ls' := [(0, .ref (fr_ad w 17)), (1, .int a1), (2, .int a2), (3, .int (b1.2.2.2 + 1)), (4, .int (b1.2.2.1 + r4)), (5, .int (b1.2.2.1 + r4)), (6, .int (b1.2.2.2 + 1))]) dX1_cheapestStop_54 rfl rfl (by decide) rfl rfl ?_
        refine fr_goto hg (n := 11) dX1_cheapestStop_57 (by decide) ?_
        exact fr_leaf [0, 1, 2, 3, 4, 5, 6] rfl (fun h => h)
  refine fr_iload_n hg 0 rfl dX1_cheapestStop_60 rfl ?_
  exact fr_iret hg (rty := .int) rfl dX1_cheapestStop_61 (fun h => h)
noncomputable def zX1_change_L6 (σ : fr_St) (k1 : Int32) (k2 : Int32) (k3 : Int32) (v4 : Int32) (v5 : Int32) : Option ((Int32 × Int32) ⊕ (Int32)) :=
  if k1 ≤ v5 then some (.inr v4) else if σ 17 6 ≤ v5 then some (.inr v4) else (fr_al 32 σ 22 v5).bind (fun x1 => (zX1_changeAt σ x1 k2 k3).bind (fun r2 => some (.inl (v4 + r2, v5 + 1))))
noncomputable def zX1_change (σ : fr_St) (a1 : Int32) (a2 : Int32) (a3 : Int32) : Option (Int32) :=
  (fr_loop (fun (b1 : Int32 × Int32) => zX1_change_L6 σ a1 a2 a3 b1.1 b1.2) fr_fu (0, 0)).bind (fun (c2 : Int32) => some c2)
set_option maxRecDepth 100000 in
set_option maxHeartbeats 4000000 in
theorem mX1_change (a1 : Int32) (a2 : Int32) (a3 : Int32) : fr_MI1 yX1_change cX1_change 6 .int 1 23 fr_shX (fun w => [.ref (fr_ad w 17), .int a1, .int a2, .int a3]) (fun σ => zX1_change σ a1 a2 a3) := by
  refine fr_mkI1 (by decide) (fun w => Nat.le_of_ble_eq_true rfl) (fun g w σ hg => ?_)
  show fr_V g w 6 (zX1_change σ a1 a2 a3) _ 0 [(0, .ref (fr_ad w 17)), (1, .int a1), (2, .int a2), (3, .int a3)] [] σ
  unfold zX1_change
  refine fr_iconst hg (v := 0) (by decide) dX1_change_0 rfl ?_
  refine fr_istore hg (ls' := [(0, .ref (fr_ad w 17)), (1, .int a1), (2, .int a2), (3, .int a3), (4, .int 0)]) dX1_change_1 (by decide) rfl rfl ?_
  refine fr_iconst hg (v := 0) (by decide) dX1_change_3 rfl ?_
  refine fr_istore hg (ls' := [(0, .ref (fr_ad w 17)), (1, .int a1), (2, .int a2), (3, .int a3), (4, .int 0), (5, .int 0)]) dX1_change_4 (by decide) rfl rfl ?_
  refine fr_lp (fun (b1 : Int32 × Int32) => [(0, .ref (fr_ad w 17)), (1, .int a1), (2, .int a2), (3, .int a3), (4, .int b1.1), (5, .int b1.2)]) (fun b1 => σ) 45 (fun (c2 : Int32) => [(4, .int c2)]) (fun c2 => σ) [0, 1, 2, 3, 4, 5] rfl rfl (fun b1 => ?_) (fun c2 => ?_)
  · show fr_V g w _ (zX1_change_L6 σ a1 a2 a3 b1.1 b1.2) _ _ _ _ _
    unfold zX1_change_L6
    refine fr_iload hg 5 rfl dX1_change_6 rfl ?_
    refine fr_iload_n hg 1 rfl dX1_change_8 rfl ?_
    refine fr_icmp_ge hg (m := 45) dX1_change_9 (by decide) rfl ?_ ?_
    · exact fr_leaf [4] rfl (fun h => h)
    · refine fr_iload hg 5 rfl dX1_change_12 rfl ?_
      refine fr_aload_n hg 0 rfl dX1_change_14 rfl ?_
      refine fr_geti hg (q := 17) fo_X1_30 rfl rfl dX1_change_15 rfl ?_
      refine fr_icmp_ge hg (m := 45) dX1_change_18 (by decide) rfl ?_ ?_
      · exact fr_leaf [4] rfl (fun h => h)
      · refine fr_iload hg 4 rfl dX1_change_21 rfl ?_
        refine fr_aload_n hg 0 rfl dX1_change_23 rfl ?_
        refine fr_aload_n hg 0 rfl dX1_change_24 rfl ?_
        refine fr_getr hg (q := 17) (q' := 22) fo_X1_24 rfl rfl dX1_change_25 rfl ?_
        refine fr_iload hg 5 rfl dX1_change_28 rfl ?_
        refine fr_iaload hg (q := 22) rfl dX1_change_30 rfl (fun x3 => ?_)
        refine fr_iload_n hg 2 rfl dX1_change_31 rfl ?_
        refine fr_iload_n hg 3 rfl dX1_change_32 rfl ?_
        refine fr_ci1 hg (mX1_changeAt x3 a2 a3) (fr_crV hg (q := 17) mo_X1_101 rfl ⟨_, _, rfl⟩ rfl (by decide) (by decide) (Nat.le_of_ble_eq_true rfl) dX1_change_33 rfl) rfl (fun r4 => ?_)
        refine fr_iadd hg dX1_change_36 rfl ?_
        refine fr_istore hg (ls' := [(0, .ref (fr_ad w 17)), (1, .int a1), (2, .int a2), (3, .int a3), (4, .int (b1.1 + r4)), (5, .int b1.2)]) dX1_change_37 (by decide) rfl rfl ?_
        refine fr_iinc hg 5 (v := b1.2 + 1) (ls' := [(0, .ref (fr_ad w 17)), (1, .int a1), (2, .int a2), (3, .int a3), (4, .int (b1.1 + r4)), (5, .int (b1.2 + 1))]) dX1_change_39 rfl rfl (by decide) rfl rfl ?_
        refine fr_goto hg (n := 6) dX1_change_42 (by decide) ?_
        exact fr_leaf [0, 1, 2, 3, 4, 5] rfl (fun h => h)
  refine fr_iload hg 0 rfl dX1_change_45 rfl ?_
  exact fr_iret hg (rty := .int) rfl dX1_change_47 (fun h => h)
noncomputable def zX9_stop (σ : fr_St) (a1 : Int32) (a2 : Int32) (a3 : Int32) (a4 : Int32) : Option (Int32 × fr_St) :=
  if zX9_isTool a1 = 0 then some ((-2), σ) else if zX9_within a2 0 99 = 0 then some ((-2), σ) else if zX9_within a3 0 99 = 0 then some ((-2), σ) else if zX9_isPair a4 = 0 then some ((-2), σ) else (zX9_settled σ).bind (fun p2 => (fr_al 4 p2.2 10 a1).bind (fun x3 => (zX1_cheapestStop p2.2 (a2 * x3) a3).bind (fun r4 => if a4 = 0 then some (r4, p2.2) else (zX1_riskBehind p2.2 (p2.2 14 2)).bind (fun r5 => (zX1_change p2.2 r4 (a2 * x3) a3).bind (fun r6 => some ((a3 * r5) + r6, p2.2))))))
set_option maxRecDepth 100000 in
set_option maxHeartbeats 4000000 in
theorem mX9_stop (a1 : Int32) (a2 : Int32) (a3 : Int32) (a4 : Int32) : fr_MI2 yX9_stop cX9_stop 8 .int 4 88 fr_shX (fun w => [.ref (fr_ad w 0), .int a1, .int a2, .int a3, .int a4]) (fun σ => zX9_stop σ a1 a2 a3 a4) := by
  refine fr_mkI2 (by decide) (fun w => Nat.le_of_ble_eq_true rfl) (fun g w σ hg => ?_)
  show fr_V g w 8 (zX9_stop σ a1 a2 a3 a4) _ 0 [(0, .ref (fr_ad w 0)), (1, .int a1), (2, .int a2), (3, .int a3), (4, .int a4)] [] σ
  unfold zX9_stop
  refine fr_iload_n hg 1 rfl dX9_stop_0 rfl ?_
  refine fr_ci0 hg (mX9_isTool a1) (fr_crS hg mo_X9_105 rfl (by decide) (by decide) (Nat.le_of_ble_eq_true rfl) dX9_stop_1 rfl) rfl ?_
  refine fr_if_eq hg (m := 35) dX9_stop_4 (by decide) rfl ?_ ?_
  · refine fr_bipush hg (v := (-2)) (by decide) dX9_stop_35 rfl ?_
    exact fr_iret hg (rty := .int) rfl dX9_stop_37 (fun h => h)
  · refine fr_iload_n hg 2 rfl dX9_stop_7 rfl ?_
    refine fr_iconst hg (v := 0) (by decide) dX9_stop_8 rfl ?_
    refine fr_bipush hg (v := 99) (by decide) dX9_stop_9 rfl ?_
    refine fr_ci0 hg (mX9_within a2 0 99) (fr_crS hg mo_X9_77 rfl (by decide) (by decide) (Nat.le_of_ble_eq_true rfl) dX9_stop_11 rfl) rfl ?_
    refine fr_if_eq hg (m := 35) dX9_stop_14 (by decide) rfl ?_ ?_
    · refine fr_bipush hg (v := (-2)) (by decide) dX9_stop_35 rfl ?_
      exact fr_iret hg (rty := .int) rfl dX9_stop_37 (fun h => h)
    · refine fr_iload_n hg 3 rfl dX9_stop_17 rfl ?_
      refine fr_iconst hg (v := 0) (by decide) dX9_stop_18 rfl ?_
      refine fr_bipush hg (v := 99) (by decide) dX9_stop_19 rfl ?_
      refine fr_ci0 hg (mX9_within a3 0 99) (fr_crS hg mo_X9_77 rfl (by decide) (by decide) (Nat.le_of_ble_eq_true rfl) dX9_stop_21 rfl) rfl ?_
      refine fr_if_eq hg (m := 35) dX9_stop_24 (by decide) rfl ?_ ?_
      · refine fr_bipush hg (v := (-2)) (by decide) dX9_stop_35 rfl ?_
        exact fr_iret hg (rty := .int) rfl dX9_stop_37 (fun h => h)
      · refine fr_iload hg 4 rfl dX9_stop_27 rfl ?_
        refine fr_ci0 hg (mX9_isPair a4) (fr_crS hg mo_X9_108 rfl (by decide) (by decide) (Nat.le_of_ble_eq_true rfl) dX9_stop_29 rfl) rfl ?_
        refine fr_if_ne hg (m := 38) dX9_stop_32 (by decide) rfl ?_ ?_
        · refine fr_aload_n hg 0 rfl dX9_stop_38 rfl ?_
          refine fr_cq2 hg mX9_settled (fr_crV hg (q := 0) mo_X9_155 rfl ⟨_, _, rfl⟩ rfl (by decide) (by decide) (Nat.le_of_ble_eq_true rfl) dX9_stop_39 rfl) rfl (fun p2 hp2 => ?_)
          refine fr_astore hg (ls' := [(0, .ref (fr_ad w 0)), (1, .int a1), (2, .int a2), (3, .int a3), (4, .int a4), (5, .ref (fr_ad w 17))]) dX9_stop_42 (by decide) rfl rfl ?_
          refine fr_iload_n hg 2 rfl dX9_stop_44 rfl ?_
          refine fr_aload_n hg 0 rfl dX9_stop_45 rfl ?_
          refine fr_getr hg (q := 0) (q' := 9) fo_X9_26 rfl rfl dX9_stop_46 rfl ?_
          refine fr_getr hg (q := 9) (q' := 10) fo_X9_111 rfl rfl dX9_stop_49 rfl ?_
          refine fr_iload_n hg 1 rfl dX9_stop_52 rfl ?_
          refine fr_iaload hg (q := 10) rfl dX9_stop_53 rfl (fun x3 => ?_)
          refine fr_imul hg dX9_stop_54 rfl ?_
          refine fr_istore hg (ls' := [(0, .ref (fr_ad w 0)), (1, .int a1), (2, .int a2), (3, .int a3), (4, .int a4), (5, .ref (fr_ad w 17)), (6, .int (a2 * x3))]) dX9_stop_55 (by decide) rfl rfl ?_
          refine fr_aload hg 5 rfl dX9_stop_57 rfl ?_
          refine fr_iload hg 6 rfl dX9_stop_59 rfl ?_
          refine fr_iload_n hg 3 rfl dX9_stop_61 rfl ?_
          refine fr_ci1 hg (mX1_cheapestStop (a2 * x3) a3) (fr_crV hg (q := 17) mo_X9_205 rfl ⟨_, _, rfl⟩ rfl (by decide) (by decide) (Nat.le_of_ble_eq_true rfl) dX9_stop_62 rfl) rfl (fun r4 => ?_)
          refine fr_istore hg (ls' := [(0, .ref (fr_ad w 0)), (1, .int a1), (2, .int a2), (3, .int a3), (4, .int a4), (5, .ref (fr_ad w 17)), (6, .int (a2 * x3)), (7, .int r4)]) dX9_stop_65 (by decide) rfl rfl ?_
          refine fr_iload hg 4 rfl dX9_stop_67 rfl ?_
          refine fr_if_ne hg (m := 75) dX9_stop_69 (by decide) rfl ?_ ?_
          · refine fr_iload_n hg 3 rfl dX9_stop_75 rfl ?_
            refine fr_aload hg 5 rfl dX9_stop_76 rfl ?_
            refine fr_aload_n hg 0 rfl dX9_stop_78 rfl ?_
            refine fr_getr hg (q := 0) (q' := 14) fo_X9_40 rfl rfl dX9_stop_79 rfl ?_
            refine fr_geti hg (q := 14) fo_X9_151 rfl rfl dX9_stop_82 rfl ?_
            refine fr_aload_n hg 0 rfl dX9_stop_85 rfl ?_
            refine fr_getr hg (q := 0) (q' := 14) fo_X9_40 rfl rfl dX9_stop_86 rfl ?_
            refine fr_aload_n hg 0 rfl dX9_stop_89 rfl ?_
            refine fr_getr hg (q := 0) (q' := 1) fo_X9_12 rfl rfl dX9_stop_90 rfl ?_
            refine fr_ci1 hg (mX1_riskBehind (p2.2 14 2)) (fr_crV hg (q := 17) mo_X9_173 rfl ⟨_, _, rfl⟩ rfl (by decide) (by decide) (Nat.le_of_ble_eq_true rfl) dX9_stop_93 rfl) rfl (fun r5 => ?_)
            refine fr_imul hg dX9_stop_96 rfl ?_
            refine fr_aload hg 5 rfl dX9_stop_97 rfl ?_
            refine fr_iload hg 7 rfl dX9_stop_99 rfl ?_
            refine fr_iload hg 6 rfl dX9_stop_101 rfl ?_
            refine fr_iload_n hg 3 rfl dX9_stop_103 rfl ?_
            refine fr_ci1 hg (mX1_change r4 (a2 * x3) a3) (fr_crV hg (q := 17) mo_X9_208 rfl ⟨_, _, rfl⟩ rfl (by decide) (by decide) (Nat.le_of_ble_eq_true rfl) dX9_stop_104 rfl) rfl (fun r6 => ?_)
            refine fr_iadd hg dX9_stop_107 rfl ?_
            exact fr_iret hg (rty := .int) rfl dX9_stop_108 (fun h => h)
          · refine fr_iload hg 7 rfl dX9_stop_72 rfl ?_
            exact fr_iret hg (rty := .int) rfl dX9_stop_74 (fun h => h)
        · refine fr_bipush hg (v := (-2)) (by decide) dX9_stop_35 rfl ?_
          exact fr_iret hg (rty := .int) rfl dX9_stop_37 (fun h => h)
noncomputable def zX1_thickest_L3 (σ : fr_St) (v1 : Int32) : Option ((Int32) ⊕ ((Int32) ⊕ (Unit))) :=
  if v1 ≤ 0 then some (.inr (.inr ())) else (fr_al 10 σ 23 v1).bind (fun x1 => if x1 ≤ 0 then some (.inl (v1 + (-1))) else some (.inr (.inl v1)))
noncomputable def zX1_thickest (σ : fr_St)  : Option (Int32) :=
  (fr_loop (fun (b1 : Int32) => zX1_thickest_L3 σ b1) fr_fu 9).bind (fr_ei (fun r => some r) (fun (c2 : Unit) => some 0))
set_option maxRecDepth 100000 in
set_option maxHeartbeats 4000000 in
theorem mX1_thickest  : fr_MI1 yX1_thickest cX1_thickest 2 .int 0 0 fr_shX (fun w => [.ref (fr_ad w 17)]) (fun σ => zX1_thickest σ) := by
  refine fr_mkI1 (by decide) (fun w => Nat.le_of_ble_eq_true rfl) (fun g w σ hg => ?_)
  show fr_V g w 2 (zX1_thickest σ) _ 0 [(0, .ref (fr_ad w 17))] [] σ
  unfold zX1_thickest
  refine fr_bipush hg (v := 9) (by decide) dX1_thickest_0 rfl ?_
  refine fr_istore_n hg (ls' := [(0, .ref (fr_ad w 17)), (1, .int 9)]) dX1_thickest_2 rfl (by decide) rfl rfl ?_
  refine fr_lpr (fun (b1 : Int32) => [(0, .ref (fr_ad w 17)), (1, .int b1)]) (fun b1 => σ) 24 (fun (c2 : Unit) => []) (fun c2 => σ) [0, 1] rfl rfl (fun r => fr_RI g w .int r σ) (fun r t h1 h2 => ?_) (fun b1 => ?_) (fun c2 => ?_)
  · cases h1; exact h2
  · show fr_V g w _ (zX1_thickest_L3 σ b1) _ _ _ _ _
    unfold zX1_thickest_L3
    refine fr_iload_n hg 1 rfl dX1_thickest_3 rfl ?_
    refine fr_if_le hg (m := 24) dX1_thickest_4 (by decide) rfl ?_ ?_
    · exact fr_leaf [] rfl (fun h => h)
    · refine fr_aload_n hg 0 rfl dX1_thickest_7 rfl ?_
      refine fr_getr hg (q := 17) (q' := 23) fo_X1_27 rfl rfl dX1_thickest_8 rfl ?_
      refine fr_iload_n hg 1 rfl dX1_thickest_11 rfl ?_
      refine fr_iaload hg (q := 23) rfl dX1_thickest_12 rfl (fun x3 => ?_)
      refine fr_if_le hg (m := 18) dX1_thickest_13 (by decide) rfl ?_ ?_
      · refine fr_iinc hg 1 (v := b1 + (-1)) (ls' := [(0, .ref (fr_ad w 17)), (1, .int (b1 + (-1)))]) dX1_thickest_18 rfl rfl (by decide) rfl rfl ?_
        refine fr_goto hg (n := 3) dX1_thickest_21 (by decide) ?_
        exact fr_leaf [0, 1] rfl (fun h => h)
      · refine fr_iload_n hg 1 rfl dX1_thickest_16 rfl ?_
        exact fr_iret hg (rty := .int) rfl dX1_thickest_17 (fun h => h)
  refine fr_iconst hg (v := 0) (by decide) dX1_thickest_24 rfl ?_
  exact fr_iret hg (rty := .int) rfl dX1_thickest_25 (fun h => h)
