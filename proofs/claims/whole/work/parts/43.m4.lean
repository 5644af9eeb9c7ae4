noncomputable def zX10_risk (σ : fr_St) (a1 : Int32) : Option (Int32 × fr_St) :=
  (zX10_scrapesAll σ).bind (fun σ1 => if zX10_in a1.toInt64 0 (((σ1 0 14) - 1).toInt64) = 0 then some ((-2), σ1) else (zX10_riskOf σ1 a1).bind (fun r2 => some (r2, σ1)))
set_option maxRecDepth 100000 in
set_option maxHeartbeats 4000000 in
theorem mX10_risk (a1 : Int32) : fr_MI2 yX10_risk cX10_risk 2 .int 5 113 fr_shM (fun w => [.ref (fr_ad w 0), .int a1]) (fun σ => zX10_risk σ a1) := by
  refine fr_mkI2 (by decide) (fun w => Nat.le_of_ble_eq_true rfl) (fun g w σ hg => ?_)
  show fr_V g w 2 (zX10_risk σ a1) _ 0 [(0, .ref (fr_ad w 0)), (1, .int a1)] [] σ
  unfold zX10_risk
  refine fr_aload_n hg 0 rfl dX10_risk_0 rfl ?_
  refine fr_cv2 hg mX10_scrapesAll (fr_crV hg (q := 0) mo_X10_174 rfl ⟨_, _, rfl⟩ rfl (by decide) (by decide) (Nat.le_of_ble_eq_true rfl) dX10_risk_1 rfl) rfl (fun σ1 => ?_)
  refine fr_iload_n hg 1 rfl dX10_risk_4 rfl ?_
  refine fr_i2l hg dX10_risk_5 rfl ?_
  refine fr_lconst hg (v := 0) (by decide) dX10_risk_6 rfl ?_
  refine fr_aload_n hg 0 rfl dX10_risk_7 rfl ?_
  refine fr_geti hg (q := 0) fo_X10_128 rfl rfl dX10_risk_8 rfl ?_
  refine fr_iconst hg (v := 1) (by decide) dX10_risk_11 rfl ?_
  refine fr_isub hg dX10_risk_12 rfl ?_
  refine fr_i2l hg dX10_risk_13 rfl ?_
  refine fr_ci0 hg (mX10_in a1.toInt64 0 (((σ1 0 14) - 1).toInt64)) (fr_crS hg mo_X10_73 rfl (by decide) (by decide) (Nat.le_of_ble_eq_true rfl) dX10_risk_14 rfl) rfl ?_
  refine fr_if_eq hg (m := 28) dX10_risk_17 (by decide) rfl ?_ ?_
  · refine fr_bipush hg (v := (-2)) (by decide) dX10_risk_28 rfl ?_
    exact fr_iret hg (rty := .int) rfl dX10_risk_30 (fun h => h)
  · refine fr_aload_n hg 0 rfl dX10_risk_20 rfl ?_
    refine fr_iload_n hg 1 rfl dX10_risk_21 rfl ?_
    refine fr_ci1 hg (mX10_riskOf a1) (fr_crV hg (q := 0) mo_X10_177 rfl ⟨_, _, rfl⟩ rfl (by decide) (by decide) (Nat.le_of_ble_eq_true rfl) dX10_risk_22 rfl) rfl (fun r2 => ?_)
    refine fr_goto hg (n := 30) dX10_risk_25 (by decide) ?_
    exact fr_iret hg (rty := .int) rfl dX10_risk_30 (fun h => h)
noncomputable def zX10_allOf_L4 (σ : fr_St) (k1 : Int32) (v2 : Int32) (v3 : Int32) : Option ((Int32 × Int32) ⊕ (Int32)) :=
  if 32 ≤ v3 then some (.inr v2) else (fr_al 32 σ 9 v3).bind (fun x1 => (fr_al 4 σ 11 k1).bind (fun x2 => some (.inl (v2 + (x1 * x2), v3 + 1))))
noncomputable def zX10_allOf (σ : fr_St) (a1 : Int32) : Option (Int32) :=
  (fr_loop (fun (b1 : Int32 × Int32) => zX10_allOf_L4 σ a1 b1.1 b1.2) fr_fu (0, 0)).bind (fun (c2 : Int32) => some c2)
set_option maxRecDepth 100000 in
set_option maxHeartbeats 4000000 in
theorem mX10_allOf (a1 : Int32) : fr_MI1 yX10_allOf cX10_allOf 4 .int 0 0 fr_shM (fun w => [.ref (fr_ad w 0), .int a1]) (fun σ => zX10_allOf σ a1) := by
  refine fr_mkI1 (by decide) (fun w => Nat.le_of_ble_eq_true rfl) (fun g w σ hg => ?_)
  show fr_V g w 4 (zX10_allOf σ a1) _ 0 [(0, .ref (fr_ad w 0)), (1, .int a1)] [] σ
  unfold zX10_allOf
  refine fr_iconst hg (v := 0) (by decide) dX10_allOf_0 rfl ?_
  refine fr_istore_n hg (ls' := [(0, .ref (fr_ad w 0)), (1, .int a1), (2, .int 0)]) dX10_allOf_1 rfl (by decide) rfl rfl ?_
  refine fr_iconst hg (v := 0) (by decide) dX10_allOf_2 rfl ?_
  refine fr_istore_n hg (ls' := [(0, .ref (fr_ad w 0)), (1, .int a1), (2, .int 0), (3, .int 0)]) dX10_allOf_3 rfl (by decide) rfl rfl ?_
  refine fr_lp (fun (b1 : Int32 × Int32) => [(0, .ref (fr_ad w 0)), (1, .int a1), (2, .int b1.1), (3, .int b1.2)]) (fun b1 => σ) 32 (fun (c2 : Int32) => [(2, .int c2)]) (fun c2 => σ) [0, 1, 2, 3] rfl rfl (fun b1 => ?_) (fun c2 => ?_)
  · show fr_V g w _ (zX10_allOf_L4 σ a1 b1.1 b1.2) _ _ _ _ _
    unfold zX10_allOf_L4
    refine fr_iload_n hg 3 rfl dX10_allOf_4 rfl ?_
    refine fr_bipush hg (v := 32) (by decide) dX10_allOf_5 rfl ?_
    refine fr_icmp_ge hg (m := 32) dX10_allOf_7 (by decide) rfl ?_ ?_
    · exact fr_leaf [2] rfl (fun h => h)
    · refine fr_iload_n hg 2 rfl dX10_allOf_10 rfl ?_
      refine fr_aload_n hg 0 rfl dX10_allOf_11 rfl ?_
      refine fr_getr hg (q := 0) (q' := 9) fo_X10_35 rfl rfl dX10_allOf_12 rfl ?_
      refine fr_iload_n hg 3 rfl dX10_allOf_15 rfl ?_
      refine fr_iaload hg (q := 9) rfl dX10_allOf_16 rfl (fun x3 => ?_)
      refine fr_aload_n hg 0 rfl dX10_allOf_17 rfl ?_
      refine fr_getr hg (q := 0) (q' := 11) fo_X10_41 rfl rfl dX10_allOf_18 rfl ?_
      refine fr_iload_n hg 1 rfl dX10_allOf_21 rfl ?_
      refine fr_iaload hg (q := 11) rfl dX10_allOf_22 rfl (fun x4 => ?_)
      refine fr_imul hg dX10_allOf_23 rfl ?_
      refine fr_iadd hg dX10_allOf_24 rfl ?_
      refine fr_istore_n hg (ls' := [(0, .ref (fr_ad w 0)), (1, .int a1), (2, .int (b1.1 + (x3 * x4))), (3, .int b1.2)]) dX10_allOf_25 rfl (by decide) rfl rfl ?_
      refine fr_iinc hg 3 (v := b1.2 + 1) (ls' := [(0, .ref (fr_ad w 0)), (1, .int a1), (2, .int (b1.1 + (x3 * x4))), (3, .int (b1.2 + 1))]) dX10_allOf_26 rfl rfl (by decide) rfl rfl ?_
      refine fr_goto hg (n := 4) dX10_allOf_29 (by decide) ?_
      exact fr_leaf [0, 1, 2, 3] rfl (fun h => h)
  refine fr_iload_n hg 0 rfl dX10_allOf_32 rfl ?_
  exact fr_iret hg (rty := .int) rfl dX10_allOf_33 (fun h => h)
noncomputable def zX10_all (σ : fr_St) (a1 : Int32) : Option (Int32 × fr_St) :=
  (zX10_scrapesAll σ).bind (fun σ1 => if zX10_isTool a1 = 0 then some ((-2), σ1) else (zX10_allOf σ1 a1).bind (fun r2 => some (r2, σ1)))
set_option maxRecDepth 100000 in
set_option maxHeartbeats 4000000 in
theorem mX10_all (a1 : Int32) : fr_MI2 yX10_all cX10_all 2 .int 5 113 fr_shM (fun w => [.ref (fr_ad w 0), .int a1]) (fun σ => zX10_all σ a1) := by
  refine fr_mkI2 (by decide) (fun w => Nat.le_of_ble_eq_true rfl) (fun g w σ hg => ?_)
  show fr_V g w 2 (zX10_all σ a1) _ 0 [(0, .ref (fr_ad w 0)), (1, .int a1)] [] σ
  unfold zX10_all
  refine fr_aload_n hg 0 rfl dX10_all_0 rfl ?_
  refine fr_cv2 hg mX10_scrapesAll (fr_crV hg (q := 0) mo_X10_174 rfl ⟨_, _, rfl⟩ rfl (by decide) (by decide) (Nat.le_of_ble_eq_true rfl) dX10_all_1 rfl) rfl (fun σ1 => ?_)
  refine fr_iload_n hg 1 rfl dX10_all_4 rfl ?_
  refine fr_ci0 hg (mX10_isTool a1) (fr_crS hg mo_X10_143 rfl (by decide) (by decide) (Nat.le_of_ble_eq_true rfl) dX10_all_5 rfl) rfl ?_
  refine fr_if_eq hg (m := 19) dX10_all_8 (by decide) rfl ?_ ?_
  · refine fr_bipush hg (v := (-2)) (by decide) dX10_all_19 rfl ?_
    exact fr_iret hg (rty := .int) rfl dX10_all_21 (fun h => h)
  · refine fr_aload_n hg 0 rfl dX10_all_11 rfl ?_
    refine fr_iload_n hg 1 rfl dX10_all_12 rfl ?_
    refine fr_ci1 hg (mX10_allOf a1) (fr_crV hg (q := 0) mo_X10_189 rfl ⟨_, _, rfl⟩ rfl (by decide) (by decide) (Nat.le_of_ble_eq_true rfl) dX10_all_13 rfl) rfl (fun r2 => ?_)
    refine fr_goto hg (n := 21) dX10_all_16 (by decide) ?_
    exact fr_iret hg (rty := .int) rfl dX10_all_21 (fun h => h)
noncomputable def zX10_findParts_L17 (k1 : Int32) (v2 : Int32) (σ : fr_St) : Option ((Int32 × fr_St) ⊕ (fr_St)) :=
  if σ 0 14 ≤ v2 then some (.inr σ) else (fr_al 32 σ 9 k1).bind (fun x1 => if x1 ≤ 0 then some (.inr σ) else (fr_al 32 σ 17 k1).bind (fun x2 => (fr_al 40 σ 10 v2).bind (fun x3 => (fr_al 160 σ 13 ((32 * x3) + k1)).bind (fun x4 => (fr_as 32 σ 17 k1 (x2 + x4)).bind (fun σ5 => some (.inl (v2 + 1, σ5)))))))
noncomputable def zX10_findParts_L2 (v1 : Int32) (σ : fr_St) : Option ((Int32 × fr_St) ⊕ (fr_St)) :=
  if 32 ≤ v1 then some (.inr σ) else (fr_as 32 σ 17 v1 0).bind (fun σ1 => (fr_loop (fun (b2 : Int32 × fr_St) => zX10_findParts_L17 v1 b2.1 b2.2) fr_fu (0, σ1)).bind (fun (c3 : fr_St) => some (.inl (v1 + 1, c3))))
noncomputable def zX10_findParts (σ : fr_St)  : Option (fr_St) :=
  (fr_loop (fun (b1 : Int32 × fr_St) => zX10_findParts_L2 b1.1 b1.2) fr_fu (0, σ)).bind (fun (c2 : fr_St) => some c2)
set_option maxRecDepth 100000 in
set_option maxHeartbeats 4000000 in
theorem mX10_findParts  : fr_MV2 yX10_findParts cX10_findParts 3 0 0 fr_shM (fun w => [.ref (fr_ad w 0)]) (fun σ => zX10_findParts σ) := by
  refine fr_mkV2 (by decide) (fun w => Nat.le_of_ble_eq_true rfl) (fun g w σ hg => ?_)
  show fr_V g w 3 (zX10_findParts σ) _ 0 [(0, .ref (fr_ad w 0))] [] σ
  unfold zX10_findParts
  refine fr_iconst hg (v := 0) (by decide) dX10_findParts_0 rfl ?_
  refine fr_istore_n hg (ls' := [(0, .ref (fr_ad w 0)), (1, .int 0)]) dX10_findParts_1 rfl (by decide) rfl rfl ?_
  refine fr_lp (fun (b1 : Int32 × fr_St) => [(0, .ref (fr_ad w 0)), (1, .int b1.1)]) (fun b1 => b1.2) 71 (fun (c2 : fr_St) => []) (fun c2 => c2) [0, 1] rfl rfl (fun b1 => ?_) (fun c2 => ?_)
  · show fr_V g w _ (zX10_findParts_L2 b1.1 b1.2) _ _ _ _ _
    unfold zX10_findParts_L2
    refine fr_iload_n hg 1 rfl dX10_findParts_2 rfl ?_
    refine fr_bipush hg (v := 32) (by decide) dX10_findParts_3 rfl ?_
    refine fr_icmp_ge hg (m := 71) dX10_findParts_5 (by decide) rfl ?_ ?_
    · exact fr_leaf [] rfl (fun h => h)
    · refine fr_aload_n hg 0 rfl dX10_findParts_8 rfl ?_
      refine fr_getr hg (q := 0) (q' := 17) fo_X10_59 rfl rfl dX10_findParts_9 rfl ?_
      refine fr_iload_n hg 1 rfl dX10_findParts_12 rfl ?_
      refine fr_iconst hg (v := 0) (by decide) dX10_findParts_13 rfl ?_
      refine fr_iastore hg (q := 17) rfl dX10_findParts_14 rfl (fun σ3 => ?_)
      refine fr_iconst hg (v := 0) (by decide) dX10_findParts_15 rfl ?_
      refine fr_istore_n hg (ls' := [(0, .ref (fr_ad w 0)), (1, .int b1.1), (2, .int 0)]) dX10_findParts_16 rfl (by decide) rfl rfl ?_
      refine fr_lp (fun (b4 : Int32 × fr_St) => [(0, .ref (fr_ad w 0)), (1, .int b1.1), (2, .int b4.1)]) (fun b4 => b4.2) 65 (fun (c5 : fr_St) => [(0, .ref (fr_ad w 0)), (1, .int b1.1)]) (fun c5 => c5) [0, 1, 2] rfl rfl (fun b4 => ?_) (fun c5 => ?_)
      · show fr_V g w _ (zX10_findParts_L17 b1.1 b4.1 b4.2) _ _ _ _ _
        unfold zX10_findParts_L17
        refine fr_iload_n hg 2 rfl dX10_findParts_17 rfl ?_
        refine fr_aload_n hg 0 rfl dX10_findParts_18 rfl ?_
        refine fr_geti hg (q := 0) fo_X10_128 rfl rfl dX10_findParts_19 rfl ?_
        refine fr_icmp_ge hg (m := 65) dX10_findParts_22 (by decide) rfl ?_ ?_
        · exact fr_leaf [0, 1] rfl (fun h => h)
        · refine fr_aload_n hg 0 rfl dX10_findParts_25 rfl ?_
          refine fr_getr hg (q := 0) (q' := 9) fo_X10_35 rfl rfl dX10_findParts_26 rfl ?_
          refine fr_iload_n hg 1 rfl dX10_findParts_29 rfl ?_
          refine fr_iaload hg (q := 9) rfl dX10_findParts_30 rfl (fun x6 => ?_)
          refine fr_if_le hg (m := 65) dX10_findParts_31 (by decide) rfl ?_ ?_
          · exact fr_leaf [0, 1] rfl (fun h => h)
          · refine fr_aload_n hg 0 rfl dX10_findParts_34 rfl ?_
            refine fr_getr hg (q := 0) (q' := 17) fo_X10_59 rfl rfl dX10_findParts_35 rfl ?_
            refine fr_iload_n hg 1 rfl dX10_findParts_38 rfl ?_
            refine fr_dup2 hg rfl rfl dX10_findParts_39 rfl ?_
            refine fr_iaload hg (q := 17) rfl dX10_findParts_40 rfl (fun x7 => ?_)
            refine fr_aload_n hg 0 rfl dX10_findParts_41 rfl ?_
            refine fr_getr hg (q := 0) (q' := 13) fo_X10_47 rfl rfl dX10_findParts_42 rfl ?_
            refine fr_bipush hg (v := 32) (by decide) dX10_findParts_45 rfl ?_
            refine fr_aload_n hg 0 rfl dX10_findParts_47 rfl ?_
            refine fr_getr hg (q := 0) (q' := 10) fo_X10_38 rfl rfl dX10_findParts_48 rfl ?_
            refine fr_iload_n hg 2 rfl dX10_findParts_51 rfl ?_
            refine fr_iaload hg (q := 10) rfl dX10_findParts_52 rfl (fun x8 => ?_)
            refine fr_imul hg dX10_findParts_53 rfl ?_
            refine fr_iload_n hg 1 rfl dX10_findParts_54 rfl ?_
            refine fr_iadd hg dX10_findParts_55 rfl ?_
            refine fr_iaload hg (q := 13) rfl dX10_findParts_56 rfl (fun x9 => ?_)
            refine fr_iadd hg dX10_findParts_57 rfl ?_
            refine fr_iastore hg (q := 17) rfl dX10_findParts_58 rfl (fun σ10 => ?_)
            refine fr_iinc hg 2 (v := b4.1 + 1) (ls' := [(0, .ref (fr_ad w 0)), (1, .int b1.1), (2, .int (b4.1 + 1))]) dX10_findParts_59 rfl rfl (by decide) rfl rfl ?_
            refine fr_goto hg (n := 17) dX10_findParts_62 (by decide) ?_
            exact fr_leaf [0, 1, 2] rfl (fun h => h)
      refine fr_iinc hg 1 (v := b1.1 + 1) (ls' := [(0, .ref (fr_ad w 0)), (1, .int (b1.1 + 1))]) dX10_findParts_65 rfl rfl (by decide) rfl rfl ?_
      refine fr_goto hg (n := 2) dX10_findParts_68 (by decide) ?_
      exact fr_leaf [0, 1] rfl (fun h => h)
  exact fr_vret hg dX10_findParts_71 (fun h => h)
def zX10_isIn (a1 : Int32) (a2 : Int32) : Int32 :=
  if (a1 >>> (a2 &&& 31)) &&& 1 = 1 then 1 else 0
theorem zbX10_isIn (a1 : Int32) (a2 : Int32) : zX10_isIn a1 a2 = 0 ∨ zX10_isIn a1 a2 = 1 := by
  unfold zX10_isIn
  first | exact Or.inl rfl | ((repeat' split) <;> first | exact Or.inl rfl | exact Or.inr rfl)
set_option maxRecDepth 100000 in
set_option maxHeartbeats 4000000 in
theorem mX10_isIn (a1 : Int32) (a2 : Int32) : fr_MI0 yX10_isIn cX10_isIn 2 .boolean 0 0 fr_shM (fun w => [.int a1, .int a2]) (fun σ => zX10_isIn a1 a2) := by
  refine fr_mkI0 (by decide) (fun w => Nat.le_of_ble_eq_true rfl) (fun g w σ hg => ?_)
  show fr_V g w 2 (some (zX10_isIn a1 a2)) _ 0 [(0, .int a1), (1, .int a2)] [] σ
  unfold zX10_isIn
  refine fr_iload_n hg 0 rfl dX10_isIn_0 rfl ?_
  refine fr_iload_n hg 1 rfl dX10_isIn_1 rfl ?_
  refine fr_ishr hg dX10_isIn_2 rfl ?_
  refine fr_iconst hg (v := 1) (by decide) dX10_isIn_3 rfl ?_
  refine fr_iand hg dX10_isIn_4 rfl ?_
  refine fr_iconst hg (v := 1) (by decide) dX10_isIn_5 rfl ?_
  refine fr_some_ite ?_
  refine fr_icmp_ne hg (m := 13) dX10_isIn_6 (by decide) rfl ?_ ?_
  · refine fr_iconst hg (v := 0) (by decide) dX10_isIn_13 rfl ?_
    exact fr_iret hg (rty := .boolean) rfl dX10_isIn_14 (fun h => h)
  · refine fr_iconst hg (v := 1) (by decide) dX10_isIn_9 rfl ?_
    refine fr_goto hg (n := 14) dX10_isIn_10 (by decide) ?_
    exact fr_iret hg (rty := .boolean) rfl dX10_isIn_14 (fun h => h)
noncomputable def zX10_findFirst_L22 (σ : fr_St) (k1 : Int32) (k2 : Int32) (k3 : Int32) (v5 : Int32) (v6 : Int32) : Option ((Int32 × Int32) ⊕ (Int32)) :=
  if 32 ≤ v6 then some (.inr v5) else (fr_al 32 σ 17 v6).bind (fun x1 => if x1 ≤ 0 then if v5 = (-1) then if (0 : Int32) = 0 then some (.inl (v5, v6 + 1)) else if (1 : Int32) = 0 then some (.inl (v5, v6 + 1)) else some (.inl (v6, v6 + 1)) else (fr_al 32 σ 17 v6).bind (fun x2 => (fr_al 32 σ 9 v5).bind (fun x3 => (fr_al 4 σ 11 k1).bind (fun x4 => (fr_al 32 σ 17 v5).bind (fun x5 => (fr_al 32 σ 9 v6).bind (fun x6 => (fr_al 4 σ 11 k1).bind (fun x7 => (some (if x2 * (x3 * x4) ≤ x5 * (x6 * x7) then 0 else 1) : Option (Int32)).bind (fun t8 => if (0 : Int32) = 0 then some (.inl (v5, v6 + 1)) else if t8 = 0 then some (.inl (v5, v6 + 1)) else some (.inl (v6, v6 + 1))))))))) else (some (if zX10_isIn k3 v6 = 0 then 1 else 0) : Option (Int32)).bind (fun t9 => if v5 = (-1) then if t9 = 0 then some (.inl (v5, v6 + 1)) else if (1 : Int32) = 0 then some (.inl (v5, v6 + 1)) else some (.inl (v6, v6 + 1)) else (fr_al 32 σ 17 v6).bind (fun x10 => (fr_al 32 σ 9 v5).bind (fun x11 => (fr_al 4 σ 11 k1).bind (fun x12 => (fr_al 32 σ 17 v5).bind (fun x13 => (fr_al 32 σ 9 v6).bind (fun x14 => (fr_al 4 σ 11 k1).bind (fun x15 => (some (if x10 * (x11 * x12) ≤ x13 * (x14 * x15) then 0 else 1) : Option (Int32)).bind (fun t16 => if t9 = 0 then some (.inl (v5, v6 + 1)) else if t16 = 0 then some (.inl (v5, v6 + 1)) else some (.inl (v6, v6 + 1)))))))))))
noncomputable def zX10_findFirst_L11 (k1 : Int32) (v2 : Int32) (v3 : Int32) (v4 : Int32) (σ : fr_St) : Option ((Int32 × Int32 × Int32 × fr_St) ⊕ (Int32 × fr_St)) :=
  if v4 = 0 then some (.inr (v2, σ)) else (fr_loop (fun (b1 : Int32 × Int32) => zX10_findFirst_L22 σ k1 v2 v3 b1.1 b1.2) fr_fu ((-1), 0)).bind (fun (c2 : Int32) => (some (if c2 = (-1) then 0 else 1) : Option (Int32)).bind (fun t19 => if t19 = 0 then some (.inl (v2, v3, t19, σ)) else (fr_as 32 σ 16 v2 c2).bind (fun σ20 => some (.inl (v2 + 1, v3 ||| (1 <<< (c2 &&& 31)), t19, σ20)))))
noncomputable def zX10_findFirst (σ : fr_St) (a1 : Int32) : Option (Int32 × fr_St) :=
  (zX10_findParts σ).bind (fun σ1 => (fr_loop (fun (b2 : Int32 × Int32 × Int32 × fr_St) => zX10_findFirst_L11 a1 b2.1 b2.2.1 b2.2.2.1 b2.2.2.2) fr_fu (0, 0, 1, σ1)).bind (fun (c3 : Int32 × fr_St) => some (c3.1, c3.2)))
set_option maxRecDepth 100000 in
set_option maxHeartbeats 4000000 in
theorem mX10_findFirst (a1 : Int32) : fr_MI2 yX10_findFirst cX10_findFirst 9 .int 1 22 fr_shM (fun w => [.ref (fr_ad w 0), .int a1]) (fun σ => zX10_findFirst σ a1) := by
  refine fr_mkI2 (by decide) (fun w => Nat.le_of_ble_eq_true rfl) (fun g w σ hg => ?_)
  show fr_V g w 9 (zX10_findFirst σ a1) _ 0 [(0, .ref (fr_ad w 0)), (1, .int a1)] [] σ
  unfold zX10_findFirst
  refine fr_aload_n hg 0 rfl dX10_findFirst_0 rfl ?_
  refine fr_cv2 hg mX10_findParts (fr_crV hg (q := 0) mo_X10_192 rfl ⟨_, _, rfl⟩ rfl (by decide) (by decide) (Nat.le_of_ble_eq_true rfl) dX10_findFirst_1 rfl) rfl (fun σ1 => ?_)
  refine fr_iconst hg (v := 0) (by decide) dX10_findFirst_4 rfl ?_
  refine fr_istore_n hg (ls' := [(0, .ref (fr_ad w 0)), (1, .int a1), (2, .int 0)]) dX10_findFirst_5 rfl (by decide) rfl rfl ?_
  refine fr_iconst hg (v := 0) (by decide) dX10_findFirst_6 rfl ?_
  refine fr_istore_n hg (ls' := [(0, .ref (fr_ad w 0)), (1, .int a1), (2, .int 0), (3, .int 0)]) dX10_findFirst_7 rfl (by decide) rfl rfl ?_
  refine fr_iconst hg (v := 1) (by decide) dX10_findFirst_8 rfl ?_
  refine fr_istore hg (ls' := [(0, .ref (fr_ad w 0)), (1, .int a1), (2, .int 0), (3, .int 0), (4, .int 1)]) dX10_findFirst_9 (by decide) rfl rfl ?_
  refine fr_lp (fun (b2 : Int32 × Int32 × Int32 × fr_St) => [(0, .ref (fr_ad w 0)), (1, .int a1), (2, .int b2.1), (3, .int b2.2.1), (4, .int b2.2.2.1)]) (fun b2 => b2.2.2.2) 179 (fun (c3 : Int32 × fr_St) => [(2, .int c3.1)]) (fun c3 => c3.2) [0, 1, 2, 3, 4] rfl rfl (fun b2 => ?_) (fun c3 => ?_)
  · show fr_V g w _ (zX10_findFirst_L11 a1 b2.1 b2.2.1 b2.2.2.1 b2.2.2.2) _ _ _ _ _
    unfold zX10_findFirst_L11
    refine fr_iload hg 4 rfl dX10_findFirst_11 rfl ?_
    refine fr_if_eq hg (m := 179) dX10_findFirst_13 (by decide) rfl ?_ ?_
    · exact fr_leaf [2] rfl (fun h => h)
    · refine fr_iconst hg (v := (-1)) (by decide) dX10_findFirst_16 rfl ?_
      refine fr_istore hg (ls' := [(0, .ref (fr_ad w 0)), (1, .int a1), (2, .int b2.1), (3, .int b2.2.1), (4, .int b2.2.2.1), (5, .int (-1))]) dX10_findFirst_17 (by decide) rfl rfl ?_
      refine fr_iconst hg (v := 0) (by decide) dX10_findFirst_19 rfl ?_
      refine fr_istore hg (ls' := [(0, .ref (fr_ad w 0)), (1, .int a1), (2, .int b2.1), (3, .int b2.2.1), (4, .int b2.2.2.1), (5, .int (-1)), (6, .int 0)]) dX10_findFirst_20 (by decide) rfl rfl ?_
      refine fr_lp (fun (b4 : Int32 × Int32) => [(0, .ref (fr_ad w 0)), (1, .int a1), (2, .int b2.1), (3, .int b2.2.1), (5, .int b4.1), (6, .int b4.2)]) (fun b4 => b2.2.2.2) 140 (fun (c5 : Int32) => [(0, .ref (fr_ad w 0)), (1, .int a1), (2, .int b2.1), (3, .int b2.2.1), (5, .int c5)]) (fun c5 => b2.2.2.2) [0, 1, 2, 3, 5, 6] rfl rfl (fun b4 => ?_) (fun c5 => ?_)
      · show fr_V g w _ (zX10_findFirst_L22 b2.2.2.2 a1 b2.1 b2.2.1 b4.1 b4.2) _ _ _ _ _
        unfold zX10_findFirst_L22
        refine fr_iload hg 5 rfl dX10_findFirst_22 rfl ?_
        refine fr_bipush hg (v := 32) (by decide) dX10_findFirst_24 rfl ?_
        refine fr_icmp_ge hg (m := 140) dX10_findFirst_26 (by decide) rfl ?_ ?_
        · exact fr_leaf [0, 1, 2, 3, 4] rfl (fun h => h)
        · refine fr_aload_n hg 0 rfl dX10_findFirst_29 rfl ?_
          refine fr_getr hg (q := 0) (q' := 17) fo_X10_59 rfl rfl dX10_findFirst_30 rfl ?_
          refine fr_iload hg 5 rfl dX10_findFirst_33 rfl ?_
          refine fr_iaload hg (q := 17) rfl dX10_findFirst_35 rfl (fun x6 => ?_)
          refine fr_if_le hg (m := 52) dX10_findFirst_36 (by decide) rfl ?_ ?_
          · refine fr_iconst hg (v := 0) (by decide) dX10_findFirst_52 rfl ?_
            refine fr_istore hg (ls' := [(0, .ref (fr_ad w 0)), (1, .int a1), (2, .int b2.1), (3, .int b2.2.1), (5, .int b4.1), (6, .int b4.2), (7, .int 0)]) dX10_findFirst_53 (by decide) rfl rfl ?_
            refine fr_iload hg 4 rfl dX10_findFirst_55 rfl ?_
            refine fr_iconst hg (v := (-1)) (by decide) dX10_findFirst_57 rfl ?_
            refine fr_icmp_eq hg (m := 108) dX10_findFirst_58 (by decide) rfl ?_ ?_
            · refine fr_iconst hg (v := 1) (by decide) dX10_findFirst_108 rfl ?_
              refine fr_goto hg (n := 113) dX10_findFirst_109 (by decide) ?_
              refine fr_istore hg (ls' := [(0, .ref (fr_ad w 0)), (1, .int a1), (2, .int b2.1), (3, .int b2.2.1), (5, .int b4.1), (6, .int b4.2), (7, .int 0), (8, .int 1)]) dX10_findFirst_113 (by decide) rfl rfl ?_
              refine fr_iload hg 6 rfl dX10_findFirst_115 rfl ?_
              refine fr_if_eq hg (m := 130) dX10_findFirst_117 (by decide) rfl ?_ ?_
              · refine fr_iload hg 4 rfl dX10_findFirst_130 rfl ?_
                refine fr_istore hg (ls' := [(0, .ref (fr_ad w 0)), (1, .int a1), (2, .int b2.1), (3, .int b2.2.1), (5, .int b4.1), (6, .int b4.2), (7, .int 0), (8, .int 1)]) dX10_findFirst_132 (by decide) rfl rfl ?_
                refine fr_iinc hg 5 (v := b4.2 + 1) (ls' := [(0, .ref (fr_ad w 0)), (1, .int a1), (2, .int b2.1), (3, .int b2.2.1), (5, .int b4.1), (6, .int (b4.2 + 1)), (7, .int 0), (8, .int 1)]) dX10_findFirst_134 rfl rfl (by decide) rfl rfl ?_
                refine fr_goto hg (n := 22) dX10_findFirst_137 (by decide) ?_
                exact fr_leaf [0, 1, 2, 3, 4, 5] rfl (fun h => h)
              · refine fr_iload hg 7 rfl dX10_findFirst_120 rfl ?_
                refine fr_if_eq hg (m := 130) dX10_findFirst_122 (by decide) rfl ?_ ?_
                · refine fr_iload hg 4 rfl dX10_findFirst_130 rfl ?_
                  refine fr_istore hg (ls' := [(0, .ref (fr_ad w 0)), (1, .int a1), (2, .int b2.1), (3, .int b2.2.1), (5, .int b4.1), (6, .int b4.2), (7, .int 0), (8, .int 1)]) dX10_findFirst_132 (by decide) rfl rfl ?_
                  refine fr_iinc hg 5 (v := b4.2 + 1) (ls' := [(0, .ref (fr_ad w 0)), (1, .int a1), (2, .int b2.1), (3, .int b2.2.1), (5, .int b4.1), (6, .int (b4.2 + 1)), (7, .int 0), (8, .int 1)]) dX10_findFirst_134 rfl rfl (by decide) rfl rfl ?_
                  refine fr_goto hg (n := 22) dX10_findFirst_137 (by decide) ?_
                  exact fr_leaf [0, 1, 2, 3, 4, 5] rfl (fun h => h)
                · refine fr_iload hg 5 rfl dX10_findFirst_125 rfl ?_
                  refine fr_goto hg (n := 132) dX10_findFirst_127 (by decide) ?_
                  refine fr_istore hg (ls' := [(0, .ref (fr_ad w 0)), (1, .int a1), (2, .int b2.1), (3, .int b2.2.1), (5, .int b4.2), (6, .int b4.2), (7, .int 0), (8, .int 1)]) dX10_findFirst_132 (by decide) rfl rfl ?_
                  refine fr_iinc hg 5 (v := b4.2 + 1) (ls' := [(0, .ref (fr_ad w 0)), (1, .int a1), (2, .int b2.1), (3, .int b2.2.1), (5, .int b4.2), (6, .int (b4.2 + 1)), (7, .int 0), (8, .int 1)]) dX10_findFirst_134 rfl rfl (by decide) rfl rfl ?_
                  refine fr_goto hg (n := 22) dX10_findFirst_137 (by decide) ?_
                  exact fr_leaf [0, 1, 2, 3, 4, 5] rfl (fun h => h)
            · refine fr_aload_n hg 0 rfl dX10_findFirst_61 rfl ?_
              refine fr_getr hg (q := 0) (q' := 17) fo_X10_59 rfl rfl dX10_findFirst_62 rfl ?_
              refine fr_iload hg 5 rfl dX10_findFirst_65 rfl ?_
              refine fr_iaload hg (q := 17) rfl dX10_findFirst_67 rfl (fun x7 => ?_)
              refine fr_aload_n hg 0 rfl dX10_findFirst_68 rfl ?_
              refine fr_getr hg (q := 0) (q' := 9) fo_X10_35 rfl rfl dX10_findFirst_69 rfl ?_
              refine fr_iload hg 4 rfl dX10_findFirst_72 rfl ?_
              refine fr_iaload hg (q := 9) rfl dX10_findFirst_74 rfl (fun x8 => ?_)
              refine fr_aload_n hg 0 rfl dX10_findFirst_75 rfl ?_
              refine fr_getr hg (q := 0) (q' := 11) fo_X10_41 rfl rfl dX10_findFirst_76 rfl ?_
              refine fr_iload_n hg 1 rfl dX10_findFirst_79 rfl ?_
              refine fr_iaload hg (q := 11) rfl dX10_findFirst_80 rfl (fun x9 => ?_)
              refine fr_imul hg dX10_findFirst_81 rfl ?_
              refine fr_imul hg dX10_findFirst_82 rfl ?_
              refine fr_aload_n hg 0 rfl dX10_findFirst_83 rfl ?_
              refine fr_getr hg (q := 0) (q' := 17) fo_X10_59 rfl rfl dX10_findFirst_84 rfl ?_
              refine fr_iload hg 4 rfl dX10_findFirst_87 rfl ?_
              refine fr_iaload hg (q := 17) rfl dX10_findFirst_89 rfl (fun x10 => ?_)
              refine fr_aload_n hg 0 rfl dX10_findFirst_90 rfl ?_
              refine fr_getr hg (q := 0) (q' := 9) fo_X10_35 rfl rfl dX10_findFirst_91 rfl ?_
              refine fr_iload hg 5 rfl dX10_findFirst_94 rfl ?_
              refine fr_iaload hg (q := 9) rfl dX10_findFirst_96 rfl (fun x11 => ?_)
              refine fr_aload_n hg 0 rfl dX10_findFirst_97 rfl ?_
              refine fr_getr hg (q := 0) (q' := 11) fo_X10_41 rfl rfl dX10_findFirst_98 rfl ?_
              refine fr_iload_n hg 1 rfl dX10_findFirst_101 rfl ?_
              refine fr_iaload hg (q := 11) rfl dX10_findFirst_102 rfl (fun x12 => ?_)
              refine fr_imul hg dX10_findFirst_103 rfl ?_
              refine fr_imul hg dX10_findFirst_104 rfl ?_
              refine fr_join (m := 113) (lj := fun (t13 : Int32) => [(0, .ref (fr_ad w 0)), (1, .int a1), (2, .int b2.1), (3, .int b2.2.1), (5, .int b4.1), (6, .int b4.2), (7, .int 0)]) (sj := fun t13 => [.int t13]) (wj := fun t13 => b2.2.2.2) ?_ (fun t13 => ?_)
              · refine fr_some_ite ?_
                refine fr_icmp_le hg (m := 112) dX10_findFirst_105 (by decide) rfl ?_ ?_
                · refine fr_iconst hg (v := 0) (by decide) dX10_findFirst_112 rfl ?_
                  exact fr_leaf [0, 1, 2, 3, 4, 5, 6] rfl (fun h => h)
                · refine fr_iconst hg (v := 1) (by decide) dX10_findFirst_108 rfl ?_
                  refine fr_goto hg (n := 113) dX10_findFirst_109 (by decide) ?_
                  exact fr_leaf [0, 1, 2, 3, 4, 5, 6] rfl (fun h => h)
              refine fr_istore hg (ls' := [(0, .ref (fr_ad w 0)), (1, .int a1), (2, .int b2.1), (3, .int b2.2.1), (5, .int b4.1), (6, .int b4.2), (7, .int 0), (8, .int t13)]) dX10_findFirst_113 (by decide) rfl rfl ?_
              refine fr_iload hg 6 rfl dX10_findFirst_115 rfl ?_
              refine fr_if_eq hg (m := 130) dX10_findFirst_117 (by decide) rfl ?_ ?_
              · refine fr_iload hg 4 rfl dX10_findFirst_130 rfl ?_
                refine fr_istore hg (ls' := [(0, .ref (fr_ad w 0)), (1, .int a1), (2, .int b2.1), (3, .int b2.2.1), (5, .int b4.1), (6, .int b4.2), (7, .int 0), (8, .int t13)]) dX10_findFirst_132 (by decide) rfl rfl ?_
                refine fr_iinc hg 5 (v := b4.2 + 1) (ls' := [(0, .ref (fr_ad w 0)), (1, .int a1), (2, .int b2.1), (3, .int b2.2.1), (5, .int b4.1), (6, .int (b4.2 + 1)), (7, .int 0), (8, .int t13)]) dX10_findFirst_134 rfl rfl (by decide) rfl rfl ?_
                refine fr_goto hg (n := 22) dX10_findFirst_137 (by decide) ?_
                exact fr_leaf [0, 1, 2, 3, 4, 5] rfl (fun h => h)
              · refine fr_iload hg 7 rfl dX10_findFirst_120 rfl ?_
                refine fr_if_eq hg (m := 130) dX10_findFirst_122 (by decide) rfl ?_ ?_
                · refine fr_iload hg 4 rfl dX10_findFirst_130 rfl ?_
                  refine fr_istore hg (ls' := [(0, .ref (fr_ad w 0)), (1, .int a1), (2, .int b2.1), (3, .int b2.2.1), (5, .int b4.1), (6, .int b4.2), (7, .int 0), (8, .int t13)]) dX10_findFirst_132 (by decide) rfl rfl ?_
                  refine fr_iinc hg 5 (v := b4.2 + 1) (ls' := [(0, .ref (fr_ad w 0)), (1, .int a1), (2, .int b2.1), (3, .int b2.2.1), (5, .int b4.1), (6, .int (b4.2 + 1)), (7, .int 0), (8, .int t13)]) dX10_findFirst_134 rfl rfl (by decide) rfl rfl ?_
                  refine fr_goto hg (n := 22) dX10_findFirst_137 (by decide) ?_
                  exact fr_leaf [0, 1, 2, 3, 4, 5] rfl (fun h => h)
                · refine fr_iload hg 5 rfl dX10_findFirst_125 rfl ?_
                  refine fr_goto hg (n := 132) dX10_findFirst_127 (by decide) ?_
                  refine fr_istore hg (ls' := [(0, .ref (fr_ad w 0)), (1, .int a1), (2, .int b2.1), (3, .int b2.2.1), (5, .int b4.2), (6, .int b4.2), (7, .int 0), (8, .int t13)]) dX10_findFirst_132 (by decide) rfl rfl ?_
                  refine fr_iinc hg 5 (v := b4.2 + 1) (ls' := [(0, .ref (fr_ad w 0)), (1, .int a1), (2, .int b2.1), (3, .int b2.2.1), (5, .int b4.2), (6, .int (b4.2 + 1)), (7, .int 0), (8, .int t13)]) dX10_findFirst_134 rfl rfl (by decide) rfl rfl ?_
                  refine fr_goto hg (n := 22) dX10_findFirst_137 (by decide) ?_
                  exact fr_leaf [0, 1, 2, 3, 4, 5] rfl (fun h => h)
          · refine fr_iload_n hg 3 rfl dX10_findFirst_39 rfl ?_
            refine fr_iload hg 5 rfl dX10_findFirst_40 rfl ?_
            refine fr_ci0 hg (mX10_isIn b2.2.1 b4.2) (fr_crS hg mo_X10_195 rfl (by decide) (by decide) (Nat.le_of_ble_eq_true rfl) dX10_findFirst_42 rfl) rfl ?_
            refine fr_join (m := 53) (lj := fun (t14 : Int32) => [(0, .ref (fr_ad w 0)), (1, .int a1), (2, .int b2.1), (3, .int b2.2.1), (5, .int b4.1), (6, .int b4.2)]) (sj := fun t14 => [.int t14]) (wj := fun t14 => b2.2.2.2) ?_ (fun t14 => ?_)
            · refine fr_some_ite ?_
              refine fr_if_ne hg (m := 52) dX10_findFirst_45 (by decide) rfl ?_ ?_
              · refine fr_iconst hg (v := 0) (by decide) dX10_findFirst_52 rfl ?_
                exact fr_leaf [0, 1, 2, 3, 4, 5] rfl (fun h => h)
              · refine fr_iconst hg (v := 1) (by decide) dX10_findFirst_48 rfl ?_
                refine fr_goto hg (n := 53) dX10_findFirst_49 (by decide) ?_
                exact fr_leaf [0, 1, 2, 3, 4, 5] rfl (fun h => h)
            refine fr_istore hg (ls' := [(0, .ref (fr_ad w 0)), (1, .int a1), (2, .int b2.1), (3, .int b2.2.1), (5, .int b4.1), (6, .int b4.2), (7, .int t14)]) dX10_findFirst_53 (by decide) rfl rfl ?_
            refine fr_iload hg 4 rfl dX10_findFirst_55 rfl ?_
            refine fr_iconst hg (v := (-1)) (by decide) dX10_findFirst_57 rfl ?_
            refine fr_icmp_eq hg (m := 108) dX10_findFirst_58 (by decide) rfl ?_ ?_
            · refine fr_iconst hg (v := 1) (by decide) dX10_findFirst_108 rfl ?_
              refine fr_goto hg (n := 113) dX10_findFirst_109 (by decide) ?_
              refine fr_istore hg (ls' := [(0, .ref (fr_ad w 0)), (1, .int a1), (2, .int b2.1), (3, .int b2.2.1), (5, .int b4.1), (6, .int b4.2), (7, .int t14), (8, .int 1)]) dX10_findFirst_113 (by decide) rfl rfl ?_
              refine fr_iload hg 6 rfl dX10_findFirst_115 rfl ?_
              refine fr_if_eq hg (m := 130) dX10_findFirst_117 (by decide) rfl ?_ ?_
              · refine fr_iload hg 4 rfl dX10_findFirst_130 rfl ?_
                refine fr_istore hg (ls' := [(0, .ref (fr_ad w 0)), (1, .int a1), (2, .int b2.1), (3, .int b2.2.1), (5, .int b4.1), (6, .int b4.2), (7, .int t14), (8, .int 1)]) dX10_findFirst_132 (by decide) rfl rfl ?_
                refine fr_iinc hg 5 (v := b4.2 + 1) (ls' := [(0, .ref (fr_ad w 0)), (1, .int a1), (2, .int b2.1), (3, .int b2.2.1), (5, .int b4.1), (6, .int (b4.2 + 1)), (7, .int t14), (8, .int 1)]) dX10_findFirst_134 rfl rfl (by decide) rfl rfl ?_
                refine fr_goto hg (n := 22) dX10_findFirst_137 (by decide) ?_
                exact fr_leaf [0, 1, 2, 3, 4, 5] rfl (fun h => h)
              · refine fr_iload hg 7 rfl dX10_findFirst_120 rfl ?_
                refine fr_if_eq hg (m := 130) dX10_findFirst_122 (by decide) rfl ?_ ?_
                · refine fr_iload hg 4 rfl dX10_findFirst_130 rfl ?_
                  refine fr_istore hg (ls' := [(0, .ref (fr_ad w 0)), (1, .int a1), (2, .int b2.1), (3, .int b2.2.1), (5, .int b4.1), (6, .int b4.2), (7, .int t14), (8, .int 1)]) dX10_findFirst_132 (by decide) rfl rfl ?_
                  refine fr_iinc hg 5 (v := b4.2 + 1) (ls' := [(0, .ref (fr_ad w 0)), (1, .int a1), (2, .int b2.1), (3, .int b2.2.1), (5, .int b4.1), (6, .int (b4.2 + 1)), (7, .int t14), (8, .int 1)]) dX10_findFirst_134 rfl rfl (by decide) rfl rfl ?_
                  refine fr_goto hg (n := 22) dX10_findFirst_137 (by decide) ?_
                  exact fr_leaf [0, 1, 2, 3, 4, 5] rfl (fun h => h)
                · refine fr_iload hg 5 rfl dX10_findFirst_125 rfl ?_
                  refine fr_goto hg (n := 132) dX10_findFirst_127 (by decide) ?_
                  refine fr_istore hg (ls' := [(0, .ref (fr_ad w 0)), (1, .int a1), (2, .int b2.1), (3, .int b2.2.1), (5, .int b4.2), (6, .int b4.2), (7, .int t14), (8, .int 1)]) dX10_findFirst_132 (by decide) rfl rfl ?_
                  refine fr_iinc hg 5 (v := b4.2 + 1) (ls' := [(0, .ref (fr_ad w 0)), (1, .int a1), (2, .int b2.1), (3, .int b2.2.1), (5, .int b4.2), (6, .int (b4.2 + 1)), (7, .int t14), (8, .int 1)]) dX10_findFirst_134 rfl rfl (by decide) rfl rfl ?_
                  refine fr_goto hg (n := 22) dX10_findFirst_137 (by decide) ?_
                  exact fr_leaf [0, 1, 2, 3, 4, 5] rfl (fun h => h)
            · refine fr_aload_n hg 0 rfl dX10_findFirst_61 rfl ?_
              refine fr_getr hg (q := 0) (q' := 17) fo_X10_59 rfl rfl dX10_findFirst_62 rfl ?_
              refine fr_iload hg 5 rfl dX10_findFirst_65 rfl ?_
              refine fr_iaload hg (q := 17) rfl dX10_findFirst_67 rfl (fun x15 => ?_)
              refine fr_aload_n hg 0 rfl dX10_findFirst_68 rfl ?_
              refine fr_getr hg (q := 0) (q' := 9) fo_X10_35 rfl rfl dX10_findFirst_69 rfl ?_
              refine fr_iload hg 4 rfl dX10_findFirst_72 rfl ?_
              refine fr_iaload hg (q := 9) rfl dX10_findFirst_74 rfl (fun x16 => ?_)
              refine fr_aload_n hg 0 rfl dX10_findFirst_75 rfl ?_
              refine fr_getr hg (q := 0) (q' := 11) fo_X10_41 rfl rfl dX10_findFirst_76 rfl ?_
              refine fr_iload_n hg 1 rfl dX10_findFirst_79 rfl ?_
              refine fr_iaload hg (q := 11) rfl dX10_findFirst_80 rfl (fun x17 => ?_)
              refine fr_imul hg dX10_findFirst_81 rfl ?_
              refine fr_imul hg dX10_findFirst_82 rfl ?_
              refine fr_aload_n hg 0 rfl dX10_findFirst_83 rfl ?_
              refine fr_getr hg (q := 0) (q' := 17) fo_X10_59 rfl rfl dX10_findFirst_84 rfl ?_
              refine fr_iload hg 4 rfl dX10_findFirst_87 rfl ?_
              refine fr_iaload hg (q := 17) rfl dX10_findFirst_89 rfl (fun x18 => ?_)
              refine fr_aload_n hg 0 rfl dX10_findFirst_90 rfl ?_
              refine fr_getr hg (q := 0) (q' := 9) fo_X10_35 rfl rfl dX10_findFirst_91 rfl ?_
              refine fr_iload hg 5 rfl dX10_findFirst_94 rfl ?_
              refine fr_iaload hg (q := 9) rfl dX10_findFirst_96 rfl (fun x19 => ?_)
              refine fr_aload_n hg 0 rfl dX10_findFirst_97 rfl ?_
              refine fr_getr hg (q := 0) (q' := 11) fo_X10_41 rfl rfl dX10_findFirst_98 rfl ?_
              refine fr_iload_n hg 1 rfl dX10_findFirst_101 rfl ?_
              refine fr_iaload hg (q := 11) rfl dX10_findFirst_102 rfl (fun x20 => ?_)
              refine fr_imul hg dX10_findFirst_103 rfl ?_
              refine fr_imul hg dX10_findFirst_104 rfl ?_
              refine fr_join (m := 113) (lj := fun (t21 : Int32) => [(0, .ref (fr_ad w 0)), (1, .int a1), (2, .int b2.1), (3, .int b2.2.1), (5, .int b4.1), (6, .int b4.2), (7, .int t14)]) (sj := fun t21 => [.int t21]) (wj := fun t21 => b2.2.2.2) ?_ (fun t21 => ?_)
              · refine fr_some_ite ?_
                refine fr_icmp_le hg (m := 112) dX10_findFirst_105 (by decide) rfl ?_ ?_
                · refine fr_iconst hg (v := 0) (by decide) dX10_findFirst_112 rfl ?_
                  exact fr_leaf [0, 1, 2, 3, 4, 5, 6] rfl (fun h => h)
                · refine fr_iconst hg (v := 1) (by decide) dX10_findFirst_108 rfl ?_
                  refine fr_goto hg (n := 113) dX10_findFirst_109 (by decide) ?_
                  exact fr_leaf [0, 1, 2, 3, 4, 5, 6] rfl (fun h => h)
              refine fr_istore hg (ls' := [(0, .ref (fr_ad w 0)), (1, .int a1), (2, .int b2.1), (3, .int b2.2.1), (5, .int b4.1), (6, .int b4.2), (7, .int t14), (8, .int t21)]) dX10_findFirst_113 (by decide) rfl rfl ?_
              refine fr_iload hg 6 rfl dX10_findFirst_115 rfl ?_
              refine fr_if_eq hg (m := 130) dX10_findFirst_117 (by decide) rfl ?_ ?_
              · refine fr_iload hg 4 rfl dX10_findFirst_130 rfl ?_
                refine fr_istore hg (ls' := [(0, .ref (fr_ad w 0)), (1, .int a1), (2, .int b2.1), (3, .int b2.2.1), (5, .int b4.1), (6, .int b4.2), (7, .int t14), (8, .int t21)]) dX10_findFirst_132 (by decide) rfl rfl ?_
                refine fr_iinc hg 5 (v := b4.2 + 1) (ls' := [(0, .ref (fr_ad w 0)), (1, .int a1), (2, .int b2.1), (3, .int b2.2.1), (5, .int b4.1), (6, .int (b4.2 + 1)), (7, .int t14), (8, .int t21)]) dX10_findFirst_134 rfl rfl (by decide) rfl rfl ?_
                refine fr_goto hg (n := 22) dX10_findFirst_137 (by decide) ?_
                exact fr_leaf [0, 1, 2, 3, 4, 5] rfl (fun h => h)
              · refine fr_iload hg 7 rfl dX10_findFirst_120 rfl ?_
                refine fr_if_eq hg (m := 130) dX10_findFirst_122 (by decide) rfl ?_ ?_
                · refine fr_iload hg 4 rfl dX10_findFirst_130 rfl ?_
                  refine fr_istore hg (ls' := [(0, .ref (fr_ad w 0)), (1, .int a1), (2, .int b2.1), (3, .int b2.2.1), (5, .int b4.1), (6, .int b4.2), (7, .int t14), (8, .int t21)]) dX10_findFirst_132 (by decide) rfl rfl ?_
                  refine fr_iinc hg 5 (v := b4.2 + 1) (ls' := [(0, .ref (fr_ad w 0)), (1, .int a1), (2, .int b2.1), (3, .int b2.2.1), (5, .int b4.1), (6, .int (b4.2 + 1)), (7, .int t14), (8, .int t21)]) dX10_findFirst_134 rfl rfl (by decide) rfl rfl ?_
                  refine fr_goto hg (n := 22) dX10_findFirst_137 (by decide) ?_
                  exact fr_leaf [0, 1, 2, 3, 4, 5] rfl (fun h => h)
                · refine fr_iload hg 5 rfl dX10_findFirst_125 rfl ?_
                  refine fr_goto hg (n := 132) dX10_findFirst_127 (by decide) ?_
                  refine fr_istore hg (ls' := [(0, .ref (fr_ad w 0)), (1, .int a1), (2, .int b2.1), (3, .int b2.2.1), (5, .int b4.2), (6, .int b4.2), (7, .int t14), (8, .int t21)]) dX10_findFirst_132 (by decide) rfl rfl ?_
                  refine fr_iinc hg 5 (v := b4.2 + 1) (ls' := [(0, .ref (fr_ad w 0)), (1, .int a1), (2, .int b2.1), (3, .int b2.2.1), (5, .int b4.2), (6, .int (b4.2 + 1)), (7, .int t14), (8, .int t21)]) dX10_findFirst_134 rfl rfl (by decide) rfl rfl ?_
                  refine fr_goto hg (n := 22) dX10_findFirst_137 (by decide) ?_
                  exact fr_leaf [0, 1, 2, 3, 4, 5] rfl (fun h => h)
      refine fr_iload hg 4 rfl dX10_findFirst_140 rfl ?_
      refine fr_iconst hg (v := (-1)) (by decide) dX10_findFirst_142 rfl ?_
      refine fr_join (m := 151) (lj := fun (t22 : Int32) => [(0, .ref (fr_ad w 0)), (1, .int a1), (2, .int b2.1), (3, .int b2.2.1), (5, .int c5)]) (sj := fun t22 => [.int t22]) (wj := fun t22 => b2.2.2.2) ?_ (fun t22 => ?_)
      · refine fr_some_ite ?_
        refine fr_icmp_eq hg (m := 150) dX10_findFirst_143 (by decide) rfl ?_ ?_
        · refine fr_iconst hg (v := 0) (by decide) dX10_findFirst_150 rfl ?_
          exact fr_leaf [0, 1, 2, 3, 4] rfl (fun h => h)
        · refine fr_iconst hg (v := 1) (by decide) dX10_findFirst_146 rfl ?_
          refine fr_goto hg (n := 151) dX10_findFirst_147 (by decide) ?_
          exact fr_leaf [0, 1, 2, 3, 4] rfl (fun h => h)
      refine fr_istore hg (ls' := [(0, .ref (fr_ad w 0)), (1, .int a1), (2, .int b2.1), (3, .int b2.2.1), (4, .int t22), (5, .int c5)]) dX10_findFirst_151 (by decide) rfl rfl ?_
      refine fr_iload hg 4 rfl dX10_findFirst_153 rfl ?_
      refine fr_if_eq hg (m := 176) dX10_findFirst_155 (by decide) rfl ?_ ?_
      · refine fr_goto hg (n := 11) dX10_findFirst_176 (by decide) ?_
        exact fr_leaf [0, 1, 2, 3, 4] rfl (fun h => h)
      · refine fr_aload_n hg 0 rfl dX10_findFirst_158 rfl ?_
        refine fr_getr hg (q := 0) (q' := 16) fo_X10_56 rfl rfl dX10_findFirst_159 rfl ?_
        refine fr_iload_n hg 2 rfl dX10_findFirst_162 rfl ?_
        refine fr_iload hg 5 rfl dX10_findFirst_163 rfl ?_
        refine fr_iastore hg (q := 16) rfl dX10_findFirst_165 rfl (fun σ23 => ?_)
        refine fr_iload_n hg 3 rfl dX10_findFirst_166 rfl ?_
        refine fr_iconst hg (v := 1) (by decide) dX10_findFirst_167 rfl ?_
        refine fr_iload hg 5 rfl dX10_findFirst_168 rfl ?_
        refine fr_ishl hg dX10_findFirst_170 rfl ?_
        refine fr_ior hg dX10_findFirst_171 rfl ?_
        refine fr_istore_n hg (ls' := [(0, .ref (fr_ad w 0)), (1, .int a1), (2, .int b2.1), (3, .int (b2.2.1 ||| (1 <<< (c5 &&& 31)))), (4, .int t22), (5, .int c5)]) dX10_findFirst_172 rfl (by decide) rfl rfl ?_
        refine fr_iinc hg 2 (v := b2.1 + 1) (ls' := [(0, .ref (fr_ad w 0)), (1, .int a1), (2, .int (b2.1 + 1)), (3, .int (b2.2.1 ||| (1 <<< (c5 &&& 31)))), (4, .int t22), (5, .int c5)]) dX10_findFirst_173 rfl rfl (by decide) rfl rfl ?_
        refine fr_goto hg (n := 11) dX10_findFirst_176 (by decide) ?_
        exact fr_leaf [0, 1, 2, 3, 4] rfl (fun h => h)
  refine fr_iload_n hg 0 rfl dX10_findFirst_179 rfl ?_
  exact fr_iret hg (rty := .int) rfl dX10_findFirst_180 (fun h => h)
noncomputable def zX10_firstOf (σ : fr_St) (a1 : Int32) (a2 : Int32) : Option (Int32 × fr_St) :=
  (zX10_findFirst σ a1).bind (fun p2 => if a2 = (-1) then some (p2.1, p2.2) else if p2.1 ≤ a2 then some ((-1), p2.2) else (fr_al 32 p2.2 16 a2).bind (fun x3 => some (x3, p2.2)))
set_option maxRecDepth 100000 in
set_option maxHeartbeats 4000000 in
theorem mX10_firstOf (a1 : Int32) (a2 : Int32) : fr_MI2 yX10_firstOf cX10_firstOf 4 .int 2 50 fr_shM (fun w => [.ref (fr_ad w 0), .int a1, .int a2]) (fun σ => zX10_firstOf σ a1 a2) := by
  refine fr_mkI2 (by decide) (fun w => Nat.le_of_ble_eq_true rfl) (fun g w σ hg => ?_)
  show fr_V g w 4 (zX10_firstOf σ a1 a2) _ 0 [(0, .ref (fr_ad w 0)), (1, .int a1), (2, .int a2)] [] σ
  unfold zX10_firstOf
  refine fr_aload_n hg 0 rfl dX10_firstOf_0 rfl ?_
  refine fr_iload_n hg 1 rfl dX10_firstOf_1 rfl ?_
  refine fr_ci2 hg (mX10_findFirst a1) (fr_crV hg (q := 0) mo_X10_199 rfl ⟨_, _, rfl⟩ rfl (by decide) (by decide) (Nat.le_of_ble_eq_true rfl) dX10_firstOf_2 rfl) rfl (fun p2 => ?_)
  refine fr_istore_n hg (ls' := [(0, .ref (fr_ad w 0)), (1, .int a1), (2, .int a2), (3, .int p2.1)]) dX10_firstOf_5 rfl (by decide) rfl rfl ?_
  refine fr_iload_n hg 2 rfl dX10_firstOf_6 rfl ?_
  refine fr_iconst hg (v := (-1)) (by decide) dX10_firstOf_7 rfl ?_
  refine fr_icmp_ne hg (m := 15) dX10_firstOf_8 (by decide) rfl ?_ ?_
  · refine fr_iload_n hg 2 rfl dX10_firstOf_15 rfl ?_
    refine fr_iload_n hg 3 rfl dX10_firstOf_16 rfl ?_
    refine fr_icmp_ge hg (m := 29) dX10_firstOf_17 (by decide) rfl ?_ ?_
    · refine fr_iconst hg (v := (-1)) (by decide) dX10_firstOf_29 rfl ?_
      exact fr_iret hg (rty := .int) rfl dX10_firstOf_30 (fun h => h)
    · refine fr_aload_n hg 0 rfl dX10_firstOf_20 rfl ?_
      refine fr_getr hg (q := 0) (q' := 16) fo_X10_56 rfl rfl dX10_firstOf_21 rfl ?_
      refine fr_iload_n hg 2 rfl dX10_firstOf_24 rfl ?_
      refine fr_iaload hg (q := 16) rfl dX10_firstOf_25 rfl (fun x3 => ?_)
      refine fr_goto hg (n := 30) dX10_firstOf_26 (by decide) ?_
      exact fr_iret hg (rty := .int) rfl dX10_firstOf_30 (fun h => h)
  · refine fr_iload_n hg 3 rfl dX10_firstOf_11 rfl ?_
    refine fr_goto hg (n := 30) dX10_firstOf_12 (by decide) ?_
    exact fr_iret hg (rty := .int) rfl dX10_firstOf_30 (fun h => h)
