noncomputable def zX6_removeLast (σ : fr_St)  : Option (fr_St) :=
  if σ 24 4 ≤ 0 then some σ else (zX6_plan (fr_put σ 24 4 ((σ 24 4) - 1))).bind (fun σ1 => some σ1)
set_option maxRecDepth 100000 in
set_option maxHeartbeats 4000000 in
theorem mX6_removeLast  : fr_MV2 yX6_removeLast cX6_removeLast 1 4 93 fr_shX (fun w => [.ref (fr_ad w 24)]) (fun σ => zX6_removeLast σ) := by
  refine fr_mkV2 (by decide) (fun w => Nat.le_of_ble_eq_true rfl) (fun g w σ hg => ?_)
  show fr_V g w 1 (zX6_removeLast σ) _ 0 [(0, .ref (fr_ad w 24))] [] σ
  unfold zX6_removeLast
  refine fr_aload_n hg 0 rfl dX6_removeLast_0 rfl ?_
  refine fr_geti hg (q := 24) fo_X6_24 rfl rfl dX6_removeLast_1 rfl ?_
  refine fr_if_le hg (m := 21) dX6_removeLast_4 (by decide) rfl ?_ ?_
  · exact fr_vret hg dX6_removeLast_21 (fun h => h)
  · refine fr_aload_n hg 0 rfl dX6_removeLast_7 rfl ?_
    refine fr_dup hg rfl dX6_removeLast_8 rfl ?_
    refine fr_geti hg (q := 24) fo_X6_24 rfl rfl dX6_removeLast_9 rfl ?_
    refine fr_iconst hg (v := 1) (by decide) dX6_removeLast_12 rfl ?_
    refine fr_isub hg dX6_removeLast_13 rfl ?_
    refine fr_puti hg (q := 24) fp_X6_24 rfl rfl rfl rfl dX6_removeLast_14 rfl ?_
    refine fr_aload_n hg 0 rfl dX6_removeLast_17 rfl ?_
    refine fr_cv2 hg mX6_plan (fr_crV hg (q := 24) mo_X6_28 rfl ⟨_, _, rfl⟩ rfl (by decide) (by decide) (Nat.le_of_ble_eq_true rfl) dX6_removeLast_18 rfl) rfl (fun σ1 => ?_)
    exact fr_vret hg dX6_removeLast_21 (fun h => h)
noncomputable def zX9_gone (σ : fr_St)  : Option (Int32 × fr_St) :=
  if 0 < σ 24 4 then (zX6_removeLast σ).bind (fun σ1 => some (σ1 24 4, σ1)) else some ((-3), σ)
set_option maxRecDepth 100000 in
set_option maxHeartbeats 4000000 in
theorem mX9_gone  : fr_MI2 yX9_gone cX9_gone 1 .int 5 113 fr_shX (fun w => [.ref (fr_ad w 0)]) (fun σ => zX9_gone σ) := by
  refine fr_mkI2 (by decide) (fun w => Nat.le_of_ble_eq_true rfl) (fun g w σ hg => ?_)
  show fr_V g w 1 (zX9_gone σ) _ 0 [(0, .ref (fr_ad w 0))] [] σ
  unfold zX9_gone
  refine fr_aload_n hg 0 rfl dX9_gone_0 rfl ?_
  refine fr_getr hg (q := 0) (q' := 24) fo_X9_54 rfl rfl dX9_gone_1 rfl ?_
  refine fr_geti hg (q := 24) fo_X9_238 rfl rfl dX9_gone_4 rfl ?_
  refine fr_if_gt hg (m := 13) dX9_gone_7 (by decide) rfl ?_ ?_
  · refine fr_aload_n hg 0 rfl dX9_gone_13 rfl ?_
    refine fr_getr hg (q := 0) (q' := 24) fo_X9_54 rfl rfl dX9_gone_14 rfl ?_
    refine fr_cv2 hg mX6_removeLast (fr_crV hg (q := 24) mo_X9_240 rfl ⟨_, _, rfl⟩ rfl (by decide) (by decide) (Nat.le_of_ble_eq_true rfl) dX9_gone_17 rfl) rfl (fun σ1 => ?_)
    refine fr_aload_n hg 0 rfl dX9_gone_20 rfl ?_
    refine fr_getr hg (q := 0) (q' := 24) fo_X9_54 rfl rfl dX9_gone_21 rfl ?_
    refine fr_geti hg (q := 24) fo_X9_238 rfl rfl dX9_gone_24 rfl ?_
    exact fr_iret hg (rty := .int) rfl dX9_gone_27 (fun h => h)
  · refine fr_bipush hg (v := (-3)) (by decide) dX9_gone_10 rfl ?_
    exact fr_iret hg (rty := .int) rfl dX9_gone_12 (fun h => h)
noncomputable def zX6_leastLate (σ : fr_St)  : Option (Int32) :=
  (fr_al 128 σ 28 0).bind (fun x1 => some x1)
set_option maxRecDepth 100000 in
set_option maxHeartbeats 4000000 in
theorem mX6_leastLate  : fr_MI1 yX6_leastLate cX6_leastLate 1 .int 0 0 fr_shX (fun w => [.ref (fr_ad w 24)]) (fun σ => zX6_leastLate σ) := by
  refine fr_mkI1 (by decide) (fun w => Nat.le_of_ble_eq_true rfl) (fun g w σ hg => ?_)
  show fr_V g w 1 (zX6_leastLate σ) _ 0 [(0, .ref (fr_ad w 24))] [] σ
  unfold zX6_leastLate
  refine fr_aload_n hg 0 rfl dX6_leastLate_0 rfl ?_
  refine fr_getr hg (q := 24) (q' := 28) fo_X6_21 rfl rfl dX6_leastLate_1 rfl ?_
  refine fr_iconst hg (v := 0) (by decide) dX6_leastLate_4 rfl ?_
  refine fr_iaload hg (q := 28) rfl dX6_leastLate_5 rfl (fun x1 => ?_)
  exact fr_iret hg (rty := .int) rfl dX6_leastLate_6 (fun h => h)
noncomputable def zX9_lent (σ : fr_St) (a1 : Int32) : Option (Int32) :=
  if zX9_within a1 (-1) 6 = 0 then some (-2) else if a1 = (-1) then (zX6_leastLate σ).bind (fun r2 => some r2) else if σ 24 4 ≤ a1 then some (-1) else (fr_al 7 σ 27 a1).bind (fun x1 => some x1)
set_option maxRecDepth 100000 in
set_option maxHeartbeats 4000000 in
theorem mX9_lent (a1 : Int32) : fr_MI1 yX9_lent cX9_lent 2 .int 1 22 fr_shX (fun w => [.ref (fr_ad w 0), .int a1]) (fun σ => zX9_lent σ a1) := by
  refine fr_mkI1 (by decide) (fun w => Nat.le_of_ble_eq_true rfl) (fun g w σ hg => ?_)
  show fr_V g w 2 (zX9_lent σ a1) _ 0 [(0, .ref (fr_ad w 0)), (1, .int a1)] [] σ
  unfold zX9_lent
  refine fr_iload_n hg 1 rfl dX9_lent_0 rfl ?_
  refine fr_iconst hg (v := (-1)) (by decide) dX9_lent_1 rfl ?_
  refine fr_bipush hg (v := 6) (by decide) dX9_lent_2 rfl ?_
  refine fr_ci0 hg (mX9_within a1 (-1) 6) (fr_crS hg mo_X9_77 rfl (by decide) (by decide) (Nat.le_of_ble_eq_true rfl) dX9_lent_4 rfl) rfl ?_
  refine fr_if_ne hg (m := 13) dX9_lent_7 (by decide) rfl ?_ ?_
  · refine fr_iload_n hg 1 rfl dX9_lent_13 rfl ?_
    refine fr_iconst hg (v := (-1)) (by decide) dX9_lent_14 rfl ?_
    refine fr_icmp_ne hg (m := 26) dX9_lent_15 (by decide) rfl ?_ ?_
    · refine fr_iload_n hg 1 rfl dX9_lent_26 rfl ?_
      refine fr_aload_n hg 0 rfl dX9_lent_27 rfl ?_
      refine fr_getr hg (q := 0) (q' := 24) fo_X9_54 rfl rfl dX9_lent_28 rfl ?_
      refine fr_geti hg (q := 24) fo_X9_238 rfl rfl dX9_lent_31 rfl ?_
      refine fr_icmp_ge hg (m := 49) dX9_lent_34 (by decide) rfl ?_ ?_
      · refine fr_iconst hg (v := (-1)) (by decide) dX9_lent_49 rfl ?_
        exact fr_iret hg (rty := .int) rfl dX9_lent_50 (fun h => h)
      · refine fr_aload_n hg 0 rfl dX9_lent_37 rfl ?_
        refine fr_getr hg (q := 0) (q' := 24) fo_X9_54 rfl rfl dX9_lent_38 rfl ?_
        refine fr_getr hg (q := 24) (q' := 27) fo_X9_246 rfl rfl dX9_lent_41 rfl ?_
        refine fr_iload_n hg 1 rfl dX9_lent_44 rfl ?_
        refine fr_iaload hg (q := 27) rfl dX9_lent_45 rfl (fun x1 => ?_)
        refine fr_goto hg (n := 50) dX9_lent_46 (by decide) ?_
        exact fr_iret hg (rty := .int) rfl dX9_lent_50 (fun h => h)
    · refine fr_aload_n hg 0 rfl dX9_lent_18 rfl ?_
      refine fr_getr hg (q := 0) (q' := 24) fo_X9_54 rfl rfl dX9_lent_19 rfl ?_
      refine fr_ci1 hg mX6_leastLate (fr_crV hg (q := 24) mo_X9_243 rfl ⟨_, _, rfl⟩ rfl (by decide) (by decide) (Nat.le_of_ble_eq_true rfl) dX9_lent_22 rfl) rfl (fun r2 => ?_)
      exact fr_iret hg (rty := .int) rfl dX9_lent_25 (fun h => h)
  · refine fr_bipush hg (v := (-2)) (by decide) dX9_lent_10 rfl ?_
    exact fr_iret hg (rty := .int) rfl dX9_lent_12 (fun h => h)
noncomputable def zX2_stepsUp_L4 (σ : fr_St) (k1 : Int32) (v2 : Int32) (v3 : Int32) : Option ((Int32 × Int32) ⊕ ((Int32) ⊕ (Int32))) :=
  if 32 ≤ v3 then some (.inr (.inr v2)) else if v3 - v3 / 8 * 8 = 0 then some (.inl (v2, v3 + 1)) else (fr_al 32 σ 6 v3).bind (fun x1 => if x1 = (-1) then some (.inl (v2, v3 + 1)) else (fr_al 32 σ 6 v3).bind (fun x2 => (fr_al 32 σ 6 (v3 - 1)).bind (fun x3 => if 0 ≤ k1 * (x2 - x3) then if v2 = 0 then if k1 * (x2 - x3) ≤ 0 then some (.inl (0, v3 + 1)) else some (.inl (1, v3 + 1)) else some (.inl (1, v3 + 1)) else some (.inr (.inl 0)))))
noncomputable def zX2_stepsUp (σ : fr_St) (a1 : Int32) : Option (Int32) :=
  (fr_loop (fun (b1 : Int32 × Int32) => zX2_stepsUp_L4 σ a1 b1.1 b1.2) fr_fu (0, 1)).bind (fr_ei (fun r => some r) (fun (c2 : Int32) => fr_z c2 c2))
set_option maxRecDepth 100000 in
set_option maxHeartbeats 4000000 in
theorem mX2_stepsUp (a1 : Int32) : fr_MI1 yX2_stepsUp cX2_stepsUp 5 .boolean 0 0 fr_shX (fun w => [.ref (fr_ad w 1), .int a1]) (fun σ => zX2_stepsUp σ a1) := by
  refine fr_mkI1 (by decide) (fun w => Nat.le_of_ble_eq_true rfl) (fun g w σ hg => ?_)
  show fr_V g w 5 (zX2_stepsUp σ a1) _ 0 [(0, .ref (fr_ad w 1)), (1, .int a1)] [] σ
  unfold zX2_stepsUp
  refine fr_iconst hg (v := 0) (by decide) dX2_stepsUp_0 rfl ?_
  refine fr_istore_n hg (ls' := [(0, .ref (fr_ad w 1)), (1, .int a1), (2, .int 0)]) dX2_stepsUp_1 rfl (by decide) rfl rfl ?_
  refine fr_iconst hg (v := 1) (by decide) dX2_stepsUp_2 rfl ?_
  refine fr_istore_n hg (ls' := [(0, .ref (fr_ad w 1)), (1, .int a1), (2, .int 0), (3, .int 1)]) dX2_stepsUp_3 rfl (by decide) rfl rfl ?_
  refine fr_lpr (fun (b1 : Int32 × Int32) => [(0, .ref (fr_ad w 1)), (1, .int a1), (2, .int b1.1), (3, .int b1.2)]) (fun b1 => σ) 74 (fun (c2 : Int32) => [(2, .int c2)]) (fun c2 => σ) [0, 1, 2, 3] rfl rfl (fun r => fr_RI g w .boolean r σ) (fun r t h1 h2 => ?_) (fun b1 => ?_) (fun c2 => ?_)
  · cases h1; exact h2
  · show fr_V g w _ (zX2_stepsUp_L4 σ a1 b1.1 b1.2) _ _ _ _ _
    unfold zX2_stepsUp_L4
    refine fr_iload_n hg 3 rfl dX2_stepsUp_4 rfl ?_
    refine fr_bipush hg (v := 32) (by decide) dX2_stepsUp_5 rfl ?_
    refine fr_icmp_ge hg (m := 74) dX2_stepsUp_7 (by decide) rfl ?_ ?_
    · exact fr_leaf [2] rfl (fun h => h)
    · refine fr_iload_n hg 3 rfl dX2_stepsUp_10 rfl ?_
      refine fr_bipush hg (v := 8) (by decide) dX2_stepsUp_11 rfl ?_
      refine fr_irem0 hg (by decide) dX2_stepsUp_13 rfl ?_
      refine fr_if_eq hg (m := 68) dX2_stepsUp_14 (by decide) rfl ?_ ?_
      · refine fr_iinc hg 3 (v := b1.2 + 1) (ls' := [(0, .ref (fr_ad w 1)), (1, .int a1), (2, .int b1.1), (3, .int (b1.2 + 1))]) dX2_stepsUp_68 rfl rfl (by decide) rfl rfl ?_
        refine fr_goto hg (n := 4) dX2_stepsUp_71 (by decide) ?_
        exact fr_leaf [0, 1, 2, 3] rfl (fun h => h)
      · refine fr_aload_n hg 0 rfl dX2_stepsUp_17 rfl ?_
        refine fr_getr hg (q := 1) (q' := 6) fo_X2_20 rfl rfl dX2_stepsUp_18 rfl ?_
        refine fr_iload_n hg 3 rfl dX2_stepsUp_21 rfl ?_
        refine fr_iaload hg (q := 6) rfl dX2_stepsUp_22 rfl (fun x3 => ?_)
        refine fr_iconst hg (v := (-1)) (by decide) dX2_stepsUp_23 rfl ?_
        refine fr_icmp_eq hg (m := 68) dX2_stepsUp_24 (by decide) rfl ?_ ?_
        · refine fr_iinc hg 3 (v := b1.2 + 1) (ls' := [(0, .ref (fr_ad w 1)), (1, .int a1), (2, .int b1.1), (3, .int (b1.2 + 1))]) dX2_stepsUp_68 rfl rfl (by decide) rfl rfl ?_
          refine fr_goto hg (n := 4) dX2_stepsUp_71 (by decide) ?_
          exact fr_leaf [0, 1, 2, 3] rfl (fun h => h)
        · refine fr_iload_n hg 1 rfl dX2_stepsUp_27 rfl ?_
          refine fr_aload_n hg 0 rfl dX2_stepsUp_28 rfl ?_
          refine fr_getr hg (q := 1) (q' := 6) fo_X2_20 rfl rfl dX2_stepsUp_29 rfl ?_
          refine fr_iload_n hg 3 rfl dX2_stepsUp_32 rfl ?_
          refine fr_iaload hg (q := 6) rfl dX2_stepsUp_33 rfl (fun x4 => ?_)
          refine fr_aload_n hg 0 rfl dX2_stepsUp_34 rfl ?_
          refine fr_getr hg (q := 1) (q' := 6) fo_X2_20 rfl rfl dX2_stepsUp_35 rfl ?_
          refine fr_iload_n hg 3 rfl dX2_stepsUp_38 rfl ?_
          refine fr_iconst hg (v := 1) (by decide) dX2_stepsUp_39 rfl ?_
          refine fr_isub hg dX2_stepsUp_40 rfl ?_
          refine fr_iaload hg (q := 6) rfl dX2_stepsUp_41 rfl (fun x5 => ?_)
          refine fr_isub hg dX2_stepsUp_42 rfl ?_
          refine fr_imul hg dX2_stepsUp_43 rfl ?_
          refine fr_istore hg (ls' := [(0, .ref (fr_ad w 1)), (1, .int a1), (2, .int b1.1), (3, .int b1.2), (4, .int (a1 * (x4 - x5)))]) dX2_stepsUp_44 (by decide) rfl rfl ?_
          refine fr_iload hg 4 rfl dX2_stepsUp_46 rfl ?_
          refine fr_if_ge hg (m := 53) dX2_stepsUp_48 (by decide) rfl ?_ ?_
          · refine fr_iload_n hg 2 rfl dX2_stepsUp_53 rfl ?_
            refine fr_if_ne hg (m := 62) dX2_stepsUp_54 (by decide) rfl ?_ ?_
            · refine fr_iconst hg (v := 1) (by decide) dX2_stepsUp_62 rfl ?_
              refine fr_goto hg (n := 67) dX2_stepsUp_63 (by decide) ?_
              refine fr_istore_n hg (ls' := [(0, .ref (fr_ad w 1)), (1, .int a1), (2, .int 1), (3, .int b1.2), (4, .int (a1 * (x4 - x5)))]) dX2_stepsUp_67 rfl (by decide) rfl rfl ?_
              refine fr_iinc hg 3 (v := b1.2 + 1) (ls' := [(0, .ref (fr_ad w 1)), (1, .int a1), (2, .int 1), (3, .int (b1.2 + 1)), (4, .int (a1 * (x4 - x5)))]) dX2_stepsUp_68 rfl rfl (by decide) rfl rfl ?_
              refine fr_goto hg (n := 4) dX2_stepsUp_71 (by decide) ?_
              exact fr_leaf [0, 1, 2, 3] rfl (fun h => h)
            · refine fr_iload hg 4 rfl dX2_stepsUp_57 rfl ?_
              refine fr_if_le hg (m := 66) dX2_stepsUp_59 (by decide) rfl ?_ ?_
              · refine fr_iconst hg (v := 0) (by decide) dX2_stepsUp_66 rfl ?_
                refine fr_istore_n hg (ls' := [(0, .ref (fr_ad w 1)), (1, .int a1), (2, .int 0), (3, .int b1.2), (4, .int (a1 * (x4 - x5)))]) dX2_stepsUp_67 rfl (by decide) rfl rfl ?_
                refine fr_iinc hg 3 (v := b1.2 + 1) (ls' := [(0, .ref (fr_ad w 1)), (1, .int a1), (2, .int 0), (3, .int (b1.2 + 1)), (4, .int (a1 * (x4 - x5)))]) dX2_stepsUp_68 rfl rfl (by decide) rfl rfl ?_
                refine fr_goto hg (n := 4) dX2_stepsUp_71 (by decide) ?_
                exact fr_leaf [0, 1, 2, 3] rfl (fun h => h)
              · refine fr_iconst hg (v := 1) (by decide) dX2_stepsUp_62 rfl ?_
                refine fr_goto hg (n := 67) dX2_stepsUp_63 (by decide) ?_
                refine fr_istore_n hg (ls' := [(0, .ref (fr_ad w 1)), (1, .int a1), (2, .int 1), (3, .int b1.2), (4, .int (a1 * (x4 - x5)))]) dX2_stepsUp_67 rfl (by decide) rfl rfl ?_
                refine fr_iinc hg 3 (v := b1.2 + 1) (ls' := [(0, .ref (fr_ad w 1)), (1, .int a1), (2, .int 1), (3, .int (b1.2 + 1)), (4, .int (a1 * (x4 - x5)))]) dX2_stepsUp_68 rfl rfl (by decide) rfl rfl ?_
                refine fr_goto hg (n := 4) dX2_stepsUp_71 (by decide) ?_
                exact fr_leaf [0, 1, 2, 3] rfl (fun h => h)
          · refine fr_iconst hg (v := 0) (by decide) dX2_stepsUp_51 rfl ?_
            exact fr_iret hg (rty := .boolean) rfl dX2_stepsUp_52 (fun h => h)
  refine fr_iload_n hg 0 rfl dX2_stepsUp_74 rfl ?_
  exact fr_zret hg dX2_stepsUp_75 (fun h => h)
noncomputable def zX9_faced (σ : fr_St)  : Option (Int32) :=
  (zX2_stepsUp σ 1).bind (fun r1 => if r1 = 0 then (zX2_stepsUp σ (-1)).bind (fun r2 => if r2 = 0 then some (-1) else some 1) else some 0)
set_option maxRecDepth 100000 in
set_option maxHeartbeats 4000000 in
theorem mX9_faced  : fr_MI1 yX9_faced cX9_faced 1 .int 1 24 fr_shX (fun w => [.ref (fr_ad w 0)]) (fun σ => zX9_faced σ) := by
  refine fr_mkI1 (by decide) (fun w => Nat.le_of_ble_eq_true rfl) (fun g w σ hg => ?_)
  show fr_V g w 1 (zX9_faced σ) _ 0 [(0, .ref (fr_ad w 0))] [] σ
  unfold zX9_faced
  refine fr_aload_n hg 0 rfl dX9_faced_0 rfl ?_
  refine fr_getr hg (q := 0) (q' := 1) fo_X9_12 rfl rfl dX9_faced_1 rfl ?_
  refine fr_iconst hg (v := 1) (by decide) dX9_faced_4 rfl ?_
  refine fr_ci1 hg (mX2_stepsUp 1) (fr_crV hg (q := 1) mo_X9_249 rfl ⟨_, _, rfl⟩ rfl (by decide) (by decide) (Nat.le_of_ble_eq_true rfl) dX9_faced_5 rfl) rfl (fun r1 => ?_)
  refine fr_if_eq hg (m := 13) dX9_faced_8 (by decide) rfl ?_ ?_
  · refine fr_aload_n hg 0 rfl dX9_faced_13 rfl ?_
    refine fr_getr hg (q := 0) (q' := 1) fo_X9_12 rfl rfl dX9_faced_14 rfl ?_
    refine fr_iconst hg (v := (-1)) (by decide) dX9_faced_17 rfl ?_
    refine fr_ci1 hg (mX2_stepsUp (-1)) (fr_crV hg (q := 1) mo_X9_249 rfl ⟨_, _, rfl⟩ rfl (by decide) (by decide) (Nat.le_of_ble_eq_true rfl) dX9_faced_18 rfl) rfl (fun r2 => ?_)
    refine fr_if_eq hg (m := 28) dX9_faced_21 (by decide) rfl ?_ ?_
    · refine fr_iconst hg (v := (-1)) (by decide) dX9_faced_28 rfl ?_
      exact fr_iret hg (rty := .int) rfl dX9_faced_29 (fun h => h)
    · refine fr_iconst hg (v := 1) (by decide) dX9_faced_24 rfl ?_
      refine fr_goto hg (n := 29) dX9_faced_25 (by decide) ?_
      exact fr_iret hg (rty := .int) rfl dX9_faced_29 (fun h => h)
  · refine fr_iconst hg (v := 0) (by decide) dX9_faced_11 rfl ?_
    exact fr_iret hg (rty := .int) rfl dX9_faced_12 (fun h => h)
noncomputable def zX9_bend (σ : fr_St) (a1 : Int32) (a2 : Int32) (a3 : Int32) : Option (Int32 × fr_St) :=
  if zX9_isStretch σ a1 = 0 then some ((-2), σ) else if zX9_within a2 0 999 = 0 then some ((-2), σ) else if zX9_within a3 0 99 = 0 then some ((-2), σ) else (zX9_risk σ a1).bind (fun p2 => if a3 * p2.1 ≤ a2 then some (0, p2.2) else some (1, p2.2))
set_option maxRecDepth 100000 in
set_option maxHeartbeats 4000000 in
theorem mX9_bend (a1 : Int32) (a2 : Int32) (a3 : Int32) : fr_MI2 yX9_bend cX9_bend 4 .int 5 109 fr_shX (fun w => [.ref (fr_ad w 0), .int a1, .int a2, .int a3]) (fun σ => zX9_bend σ a1 a2 a3) := by
  refine fr_mkI2 (by decide) (fun w => Nat.le_of_ble_eq_true rfl) (fun g w σ hg => ?_)
  show fr_V g w 4 (zX9_bend σ a1 a2 a3) _ 0 [(0, .ref (fr_ad w 0)), (1, .int a1), (2, .int a2), (3, .int a3)] [] σ
  unfold zX9_bend
  refine fr_aload_n hg 0 rfl dX9_bend_0 rfl ?_
  refine fr_iload_n hg 1 rfl dX9_bend_1 rfl ?_
  refine fr_ci0 hg (mX9_isStretch a1) (fr_crV hg (q := 0) mo_X9_186 rfl ⟨_, _, rfl⟩ rfl (by decide) (by decide) (Nat.le_of_ble_eq_true rfl) dX9_bend_2 rfl) rfl ?_
  refine fr_if_eq hg (m := 29) dX9_bend_5 (by decide) rfl ?_ ?_
  · refine fr_bipush hg (v := (-2)) (by decide) dX9_bend_29 rfl ?_
    exact fr_iret hg (rty := .int) rfl dX9_bend_31 (fun h => h)
  · refine fr_iload_n hg 2 rfl dX9_bend_8 rfl ?_
    refine fr_iconst hg (v := 0) (by decide) dX9_bend_9 rfl ?_
    refine fr_sipush hg (v := 999) (by decide) dX9_bend_10 rfl ?_
    refine fr_ci0 hg (mX9_within a2 0 999) (fr_crS hg mo_X9_77 rfl (by decide) (by decide) (Nat.le_of_ble_eq_true rfl) dX9_bend_13 rfl) rfl ?_
    refine fr_if_eq hg (m := 29) dX9_bend_16 (by decide) rfl ?_ ?_
    · refine fr_bipush hg (v := (-2)) (by decide) dX9_bend_29 rfl ?_
      exact fr_iret hg (rty := .int) rfl dX9_bend_31 (fun h => h)
    · refine fr_iload_n hg 3 rfl dX9_bend_19 rfl ?_
      refine fr_iconst hg (v := 0) (by decide) dX9_bend_20 rfl ?_
      refine fr_bipush hg (v := 99) (by decide) dX9_bend_21 rfl ?_
      refine fr_ci0 hg (mX9_within a3 0 99) (fr_crS hg mo_X9_77 rfl (by decide) (by decide) (Nat.le_of_ble_eq_true rfl) dX9_bend_23 rfl) rfl ?_
      refine fr_if_ne hg (m := 32) dX9_bend_26 (by decide) rfl ?_ ?_
      · refine fr_iload_n hg 2 rfl dX9_bend_32 rfl ?_
        refine fr_iload_n hg 3 rfl dX9_bend_33 rfl ?_
        refine fr_aload_n hg 0 rfl dX9_bend_34 rfl ?_
        refine fr_iload_n hg 1 rfl dX9_bend_35 rfl ?_
        refine fr_ci2 hg (mX9_risk a1) (fr_crV hg (q := 0) mo_X9_252 rfl ⟨_, _, rfl⟩ rfl (by decide) (by decide) (Nat.le_of_ble_eq_true rfl) dX9_bend_36 rfl) rfl (fun p2 => ?_)
        refine fr_imul hg dX9_bend_39 rfl ?_
        refine fr_icmp_ge hg (m := 47) dX9_bend_40 (by decide) rfl ?_ ?_
        · refine fr_iconst hg (v := 0) (by decide) dX9_bend_47 rfl ?_
          exact fr_iret hg (rty := .int) rfl dX9_bend_48 (fun h => h)
        · refine fr_iconst hg (v := 1) (by decide) dX9_bend_43 rfl ?_
          refine fr_goto hg (n := 48) dX9_bend_44 (by decide) ?_
          exact fr_iret hg (rty := .int) rfl dX9_bend_48 (fun h => h)
      · refine fr_bipush hg (v := (-2)) (by decide) dX9_bend_29 rfl ?_
        exact fr_iret hg (rty := .int) rfl dX9_bend_31 (fun h => h)
def zX9_isForm (a1 : Int32) : Int32 :=
  zX9_within a1 0 2
theorem zbX9_isForm (a1 : Int32) : zX9_isForm a1 = 0 ∨ zX9_isForm a1 = 1 := by
  unfold zX9_isForm
  first | exact zbX9_within a1 0 2 | ((repeat' split) <;> first | exact Or.inl rfl | exact Or.inr rfl)
set_option maxRecDepth 100000 in
set_option maxHeartbeats 4000000 in
theorem mX9_isForm (a1 : Int32) : fr_MI0 yX9_isForm cX9_isForm 1 .boolean 1 22 fr_shX (fun w => [.int a1]) (fun σ => zX9_isForm a1) := by
  refine fr_mkI0 (by decide) (fun w => Nat.le_of_ble_eq_true rfl) (fun g w σ hg => ?_)
  show fr_V g w 1 (some (zX9_isForm a1)) _ 0 [(0, .int a1)] [] σ
  unfold zX9_isForm
  refine fr_iload_n hg 0 rfl dX9_isForm_0 rfl ?_
  refine fr_iconst hg (v := 0) (by decide) dX9_isForm_1 rfl ?_
  refine fr_iconst hg (v := 2) (by decide) dX9_isForm_2 rfl ?_
  refine fr_ci0 hg (mX9_within a1 0 2) (fr_crS hg mo_X9_77 rfl (by decide) (by decide) (Nat.le_of_ble_eq_true rfl) dX9_isForm_3 rfl) rfl ?_
  exact fr_iret hg (rty := .boolean) (fr_nb (zbX9_within a1 0 2)) dX9_isForm_6 (fun h => h)
noncomputable def zX5_renew (σ : fr_St) (s : Nat) (a1 : Int32) (a2 : Int32) : Option (fr_St) :=
  (zJ7_fill_53178 σ (34 + s) 60 0).bind (fun σ1 => some (fr_put (fr_put σ1 (30 + s) 1 a1) (30 + s) 2 a2))
set_option maxRecDepth 100000 in
set_option maxHeartbeats 4000000 in
theorem mX5_renew (s : Nat) (hs : s < 4) (a1 : Int32) (a2 : Int32) : fr_MV2 yX5_renew cX5_renew 3 1 23 fr_shX (fun w => [.ref (fr_ad w (30 + s)), .int a1, .int a2]) (fun σ => zX5_renew σ s a1 a2) := by
  refine fr_mkV2 (by decide) (fun w => Nat.le_of_ble_eq_true rfl) (fun g w σ hg => ?_)
  show fr_V g w 3 (zX5_renew σ s a1 a2) _ 0 [(0, .ref (fr_ad w (30 + s))), (1, .int a1), (2, .int a2)] [] σ
  unfold zX5_renew
  refine fr_aload_n hg 0 rfl dX5_renew_0 rfl ?_
  refine fr_getr hg (q := (30 + s)) (q' := (34 + s)) fo_X5_9 (sx_30 hs) rfl dX5_renew_1 rfl ?_
  refine fr_iconst hg (v := 0) (by decide) dX5_renew_4 rfl ?_
  refine fr_cv2 hg (mJ7_fill_53178 (S := fr_shX) (34 + s) 60 (sx_34 hs) 0) (fr_crS hg mo_X5_22 rfl (by decide) (by decide) (Nat.le_of_ble_eq_true rfl) dX5_renew_5 rfl) rfl (fun σ1 => ?_)
  refine fr_aload_n hg 0 rfl dX5_renew_8 rfl ?_
  refine fr_iload_n hg 1 rfl dX5_renew_9 rfl ?_
  refine fr_puti hg (q := (30 + s)) fp_X5_15 (sx_30 hs) rfl rfl rfl dX5_renew_10 rfl ?_
  refine fr_aload_n hg 0 rfl dX5_renew_13 rfl ?_
  refine fr_iload_n hg 2 rfl dX5_renew_14 rfl ?_
  refine fr_puti hg (q := (30 + s)) fp_X5_19 (sx_30 hs) rfl rfl rfl dX5_renew_15 rfl ?_
  exact fr_vret hg dX5_renew_18 (fun h => h)
noncomputable def zX9_sheet (σ : fr_St) (a1 : Int32) (a2 : Int32) (a3 : Int32) : Option (Int32 × fr_St) :=
  if zX9_isSheet a1 = 0 then some ((-2), σ) else if zX9_isForm a2 = 0 then some ((-2), σ) else if a3 ≤ 60 then if 0 ≤ a3 then (fr_ar 4 a1).bind (fun s1 => (zX5_renew σ s1 a2 a3).bind (fun σ2 => some (a3, σ2))) else (zX9_found σ 5).bind (fun p4 => some (p4.1, p4.2)) else some ((-2), σ)
set_option maxRecDepth 100000 in
set_option maxHeartbeats 4000000 in
theorem mX9_sheet (a1 : Int32) (a2 : Int32) (a3 : Int32) : fr_MI2 yX9_sheet cX9_sheet 4 .int 2 45 fr_shX (fun w => [.ref (fr_ad w 0), .int a1, .int a2, .int a3]) (fun σ => zX9_sheet σ a1 a2 a3) := by
  refine fr_mkI2 (by decide) (fun w => Nat.le_of_ble_eq_true rfl) (fun g w σ hg => ?_)
  show fr_V g w 4 (zX9_sheet σ a1 a2 a3) _ 0 [(0, .ref (fr_ad w 0)), (1, .int a1), (2, .int a2), (3, .int a3)] [] σ
  unfold zX9_sheet
  refine fr_iload_n hg 1 rfl dX9_sheet_0 rfl ?_
  refine fr_ci0 hg (mX9_isSheet a1) (fr_crS hg mo_X9_132 rfl (by decide) (by decide) (Nat.le_of_ble_eq_true rfl) dX9_sheet_1 rfl) rfl ?_
  refine fr_if_eq hg (m := 20) dX9_sheet_4 (by decide) rfl ?_ ?_
  · refine fr_bipush hg (v := (-2)) (by decide) dX9_sheet_20 rfl ?_
    exact fr_iret hg (rty := .int) rfl dX9_sheet_22 (fun h => h)
  · refine fr_iload_n hg 2 rfl dX9_sheet_7 rfl ?_
    refine fr_ci0 hg (mX9_isForm a2) (fr_crS hg mo_X9_255 rfl (by decide) (by decide) (Nat.le_of_ble_eq_true rfl) dX9_sheet_8 rfl) rfl ?_
    refine fr_if_eq hg (m := 20) dX9_sheet_11 (by decide) rfl ?_ ?_
    · refine fr_bipush hg (v := (-2)) (by decide) dX9_sheet_20 rfl ?_
      exact fr_iret hg (rty := .int) rfl dX9_sheet_22 (fun h => h)
    · refine fr_iload_n hg 3 rfl dX9_sheet_14 rfl ?_
      refine fr_bipush hg (v := 60) (by decide) dX9_sheet_15 rfl ?_
      refine fr_icmp_le hg (m := 23) dX9_sheet_17 (by decide) rfl ?_ ?_
      · refine fr_iload_n hg 3 rfl dX9_sheet_23 rfl ?_
        refine fr_if_ge hg (m := 33) dX9_sheet_24 (by decide) rfl ?_ ?_
        · refine fr_aload_n hg 0 rfl dX9_sheet_33 rfl ?_
          refine fr_getr hg (q := 0) (q' := 29) fo_X9_60 rfl rfl dX9_sheet_34 rfl ?_
          refine fr_iload_n hg 1 rfl dX9_sheet_37 rfl ?_
          refine fr_aaload hg (q := 29) (base := 30) rfl sx_29 dX9_sheet_38 rfl (fun s1 hs1 => ?_)
          refine fr_iload_n hg 2 rfl dX9_sheet_39 rfl ?_
          refine fr_iload_n hg 3 rfl dX9_sheet_40 rfl ?_
          refine fr_cv2 hg (mX5_renew s1 hs1 a2 a3) (fr_crV hg (q := (30 + s1)) mo_X9_258 (sx_30 hs1) ⟨_, _, rfl⟩ rfl (by decide) (by decide) (Nat.le_of_ble_eq_true rfl) dX9_sheet_41 rfl) rfl (fun σ2 => ?_)
          refine fr_iload_n hg 3 rfl dX9_sheet_44 rfl ?_
          exact fr_iret hg (rty := .int) rfl dX9_sheet_45 (fun h => h)
        · refine fr_aload_n hg 0 rfl dX9_sheet_27 rfl ?_
          refine fr_iconst hg (v := 5) (by decide) dX9_sheet_28 rfl ?_
          refine fr_ci2 hg (mX9_found 5) (fr_crV hg (q := 0) mo_X9_138 rfl ⟨_, _, rfl⟩ rfl (by decide) (by decide) (Nat.le_of_ble_eq_true rfl) dX9_sheet_29 rfl) rfl (fun p4 => ?_)
          exact fr_iret hg (rty := .int) rfl dX9_sheet_32 (fun h => h)
      · refine fr_bipush hg (v := (-2)) (by decide) dX9_sheet_20 rfl ?_
        exact fr_iret hg (rty := .int) rfl dX9_sheet_22 (fun h => h)
noncomputable def zX9_lose (σ : fr_St) (a1 : Int32) : Option (Int32 × fr_St) :=
  if zX9_isSheet a1 = 0 then some ((-2), σ) else (fr_ar 4 a1).bind (fun s1 => if zX5_isLost σ s1 = 0 then some ((fr_put σ (30 + s1) 1 (-1)) (30 + s1) 2, (fr_put σ (30 + s1) 1 (-1))) else (zX9_found σ 1).bind (fun p3 => some (p3.1, p3.2)))
set_option maxRecDepth 100000 in
set_option maxHeartbeats 4000000 in
theorem mX9_lose (a1 : Int32) : fr_MI2 yX9_lose cX9_lose 3 .int 2 42 fr_shX (fun w => [.ref (fr_ad w 0), .int a1]) (fun σ => zX9_lose σ a1) := by
  refine fr_mkI2 (by decide) (fun w => Nat.le_of_ble_eq_true rfl) (fun g w σ hg => ?_)
  show fr_V g w 3 (zX9_lose σ a1) _ 0 [(0, .ref (fr_ad w 0)), (1, .int a1)] [] σ
  unfold zX9_lose
  refine fr_iload_n hg 1 rfl dX9_lose_0 rfl ?_
  refine fr_ci0 hg (mX9_isSheet a1) (fr_crS hg mo_X9_132 rfl (by decide) (by decide) (Nat.le_of_ble_eq_true rfl) dX9_lose_1 rfl) rfl ?_
  refine fr_if_ne hg (m := 10) dX9_lose_4 (by decide) rfl ?_ ?_
  · refine fr_aload_n hg 0 rfl dX9_lose_10 rfl ?_
    refine fr_getr hg (q := 0) (q' := 29) fo_X9_60 rfl rfl dX9_lose_11 rfl ?_
    refine fr_iload_n hg 1 rfl dX9_lose_14 rfl ?_
    refine fr_aaload hg (q := 29) (base := 30) rfl sx_29 dX9_lose_15 rfl (fun s1 hs1 => ?_)
    refine fr_astore_n hg (ls' := [(0, .ref (fr_ad w 0)), (1, .int a1), (2, .ref (fr_ad w (30 + s1)))]) dX9_lose_16 rfl (by decide) rfl rfl ?_
    refine fr_aload_n hg 2 rfl dX9_lose_17 rfl ?_
    refine fr_ci0 hg (mX5_isLost s1 hs1) (fr_crV hg (q := (30 + s1)) mo_X9_135 (sx_30 hs1) ⟨_, _, rfl⟩ rfl (by decide) (by decide) (Nat.le_of_ble_eq_true rfl) dX9_lose_18 rfl) rfl ?_
    refine fr_if_eq hg (m := 30) dX9_lose_21 (by decide) rfl ?_ ?_
    · refine fr_aload_n hg 2 rfl dX9_lose_30 rfl ?_
      refine fr_iconst hg (v := (-1)) (by decide) dX9_lose_31 rfl ?_
      refine fr_puti hg (q := (30 + s1)) fp_X9_261 (sx_30 hs1) rfl rfl rfl dX9_lose_32 rfl ?_
      refine fr_aload_n hg 2 rfl dX9_lose_35 rfl ?_
      refine fr_geti hg (q := (30 + s1)) fo_X9_142 (sx_30 hs1) rfl dX9_lose_36 rfl ?_
      exact fr_iret hg (rty := .int) rfl dX9_lose_39 (fun h => h)
    · refine fr_aload_n hg 0 rfl dX9_lose_24 rfl ?_
      refine fr_iconst hg (v := 1) (by decide) dX9_lose_25 rfl ?_
      refine fr_ci2 hg (mX9_found 1) (fr_crV hg (q := 0) mo_X9_138 rfl ⟨_, _, rfl⟩ rfl (by decide) (by decide) (Nat.le_of_ble_eq_true rfl) dX9_lose_26 rfl) rfl (fun p3 => ?_)
      exact fr_iret hg (rty := .int) rfl dX9_lose_29 (fun h => h)
  · refine fr_bipush hg (v := (-2)) (by decide) dX9_lose_7 rfl ?_
    exact fr_iret hg (rty := .int) rfl dX9_lose_9 (fun h => h)
def zX5_hindrance (σ : fr_St) (s : Nat) (a1 : Int32) (a2 : Int32) : Int32 :=
  if zX5_isLost σ s = 0 then if σ (30 + s) 1 = a1 then if zX9_within a2 0 ((σ (30 + s) 2) - 1) = 0 then 2 else 0 else 3 else 1
set_option maxRecDepth 100000 in
set_option maxHeartbeats 4000000 in
theorem mX5_hindrance (s : Nat) (hs : s < 4) (a1 : Int32) (a2 : Int32) : fr_MI0 yX5_hindrance cX5_hindrance 3 .int 1 22 fr_shX (fun w => [.ref (fr_ad w (30 + s)), .int a1, .int a2]) (fun σ => zX5_hindrance σ s a1 a2) := by
  refine fr_mkI0 (by decide) (fun w => Nat.le_of_ble_eq_true rfl) (fun g w σ hg => ?_)
  show fr_V g w 3 (some (zX5_hindrance σ s a1 a2)) _ 0 [(0, .ref (fr_ad w (30 + s))), (1, .int a1), (2, .int a2)] [] σ
  unfold zX5_hindrance
  refine fr_aload_n hg 0 rfl dX5_hindrance_0 rfl ?_
  refine fr_ci0 hg (mX5_isLost s hs) (fr_crV hg (q := (30 + s)) mo_X5_28 (sx_30 hs) ⟨_, _, rfl⟩ rfl (by decide) (by decide) (Nat.le_of_ble_eq_true rfl) dX5_hindrance_1 rfl) rfl ?_
  refine fr_some_ite ?_
  refine fr_if_eq hg (m := 9) dX5_hindrance_4 (by decide) rfl ?_ ?_
  · refine fr_aload_n hg 0 rfl dX5_hindrance_9 rfl ?_
    refine fr_geti hg (q := (30 + s)) fo_X5_15 (sx_30 hs) rfl dX5_hindrance_10 rfl ?_
    refine fr_iload_n hg 1 rfl dX5_hindrance_13 rfl ?_
    refine fr_some_ite ?_
    refine fr_icmp_eq hg (m := 19) dX5_hindrance_14 (by decide) rfl ?_ ?_
    · refine fr_iload_n hg 2 rfl dX5_hindrance_19 rfl ?_
      refine fr_iconst hg (v := 0) (by decide) dX5_hindrance_20 rfl ?_
      refine fr_aload_n hg 0 rfl dX5_hindrance_21 rfl ?_
      refine fr_geti hg (q := (30 + s)) fo_X5_19 (sx_30 hs) rfl dX5_hindrance_22 rfl ?_
      refine fr_iconst hg (v := 1) (by decide) dX5_hindrance_25 rfl ?_
      refine fr_isub hg dX5_hindrance_26 rfl ?_
      refine fr_ci0 hg (mX9_within a2 0 ((σ (30 + s) 2) - 1)) (fr_crN hg mo_X5_32 rfl (by decide) (by decide) (Nat.le_of_ble_eq_true rfl) dX5_hindrance_27 rfl) rfl ?_
      refine fr_some_ite ?_
      refine fr_if_eq hg (m := 37) dX5_hindrance_30 (by decide) rfl ?_ ?_
      · refine fr_iconst hg (v := 2) (by decide) dX5_hindrance_37 rfl ?_
        exact fr_iret hg (rty := .int) rfl dX5_hindrance_38 (fun h => h)
      · refine fr_iconst hg (v := 0) (by decide) dX5_hindrance_33 rfl ?_
        refine fr_goto hg (n := 38) dX5_hindrance_34 (by decide) ?_
        exact fr_iret hg (rty := .int) rfl dX5_hindrance_38 (fun h => h)
    · refine fr_iconst hg (v := 3) (by decide) dX5_hindrance_17 rfl ?_
      exact fr_iret hg (rty := .int) rfl dX5_hindrance_18 (fun h => h)
  · refine fr_iconst hg (v := 1) (by decide) dX5_hindrance_7 rfl ?_
    exact fr_iret hg (rty := .int) rfl dX5_hindrance_8 (fun h => h)
noncomputable def zX5_put (σ : fr_St) (s : Nat) (a1 : Int32) (a2 : Int32) : Option (fr_St) :=
  if zX9_within a1 0 59 = 0 then some σ else if σ (30 + s) 1 = 0 then (fr_as 60 σ (34 + s) a1 a2.toInt8.toInt32).bind (fun σ3 => some σ3) else if σ (30 + s) 1 = 1 then (fr_as 60 σ (34 + s) a1 a2.toInt16.toInt32).bind (fun σ2 => some σ2) else (fr_as 60 σ (34 + s) a1 a2).bind (fun σ1 => some σ1)
set_option maxRecDepth 100000 in
set_option maxHeartbeats 4000000 in
theorem mX5_put (s : Nat) (hs : s < 4) (a1 : Int32) (a2 : Int32) : fr_MV2 yX5_put cX5_put 3 1 22 fr_shX (fun w => [.ref (fr_ad w (30 + s)), .int a1, .int a2]) (fun σ => zX5_put σ s a1 a2) := by
  refine fr_mkV2 (by decide) (fun w => Nat.le_of_ble_eq_true rfl) (fun g w σ hg => ?_)
  show fr_V g w 3 (zX5_put σ s a1 a2) _ 0 [(0, .ref (fr_ad w (30 + s))), (1, .int a1), (2, .int a2)] [] σ
  unfold zX5_put
  refine fr_iload_n hg 1 rfl dX5_put_0 rfl ?_
  refine fr_iconst hg (v := 0) (by decide) dX5_put_1 rfl ?_
  refine fr_bipush hg (v := 59) (by decide) dX5_put_2 rfl ?_
  refine fr_ci0 hg (mX9_within a1 0 59) (fr_crN hg mo_X5_32 rfl (by decide) (by decide) (Nat.le_of_ble_eq_true rfl) dX5_put_4 rfl) rfl ?_
  refine fr_if_ne hg (m := 11) dX5_put_7 (by decide) rfl ?_ ?_
  · refine fr_aload_n hg 0 rfl dX5_put_11 rfl ?_
    refine fr_getr hg (q := (30 + s)) (q' := (34 + s)) fo_X5_9 (sx_30 hs) rfl dX5_put_12 rfl ?_
    refine fr_iload_n hg 1 rfl dX5_put_15 rfl ?_
    refine fr_aload_n hg 0 rfl dX5_put_16 rfl ?_
    refine fr_geti hg (q := (30 + s)) fo_X5_15 (sx_30 hs) rfl dX5_put_17 rfl ?_
    refine fr_if_ne hg (m := 28) dX5_put_20 (by decide) rfl ?_ ?_
    · refine fr_aload_n hg 0 rfl dX5_put_28 rfl ?_
      refine fr_geti hg (q := (30 + s)) fo_X5_15 (sx_30 hs) rfl dX5_put_29 rfl ?_
      refine fr_iconst hg (v := 1) (by decide) dX5_put_32 rfl ?_
      refine fr_icmp_ne hg (m := 41) dX5_put_33 (by decide) rfl ?_ ?_
      · refine fr_iload_n hg 2 rfl dX5_put_41 rfl ?_
        refine fr_iastore hg (q := (34 + s)) (sx_34 hs) dX5_put_42 rfl (fun σ1 => ?_)
        exact fr_vret hg dX5_put_43 (fun h => h)
      · refine fr_iload_n hg 2 rfl dX5_put_36 rfl ?_
        refine fr_i2s hg dX5_put_37 rfl ?_
        refine fr_goto hg (n := 42) dX5_put_38 (by decide) ?_
        refine fr_iastore hg (q := (34 + s)) (sx_34 hs) dX5_put_42 rfl (fun σ2 => ?_)
        exact fr_vret hg dX5_put_43 (fun h => h)
    · refine fr_iload_n hg 2 rfl dX5_put_23 rfl ?_
      refine fr_i2b hg dX5_put_24 rfl ?_
      refine fr_goto hg (n := 42) dX5_put_25 (by decide) ?_
      refine fr_iastore hg (q := (34 + s)) (sx_34 hs) dX5_put_42 rfl (fun σ3 => ?_)
      exact fr_vret hg dX5_put_43 (fun h => h)
  · exact fr_vret hg dX5_put_10 (fun h => h)
noncomputable def zX9_lay (σ : fr_St) (a1 : Int32) (a2 : Int32) (a3 : Int32) (a4 : Int32) : Option (Int32 × fr_St) :=
  if zX9_isSheet a1 = 0 then some ((-2), σ) else if zX9_isForm a2 = 0 then some ((-2), σ) else (fr_ar 4 a1).bind (fun s1 => if zX5_hindrance σ s1 a2 a3 = 0 then (fr_ar 4 a1).bind (fun s2 => (zX5_put σ s2 a3 a4).bind (fun σ3 => some (1, σ3))) else (zX9_found σ (zX5_hindrance σ s1 a2 a3)).bind (fun p5 => some (p5.1, p5.2)))
set_option maxRecDepth 100000 in
set_option maxHeartbeats 4000000 in
theorem mX9_lay (a1 : Int32) (a2 : Int32) (a3 : Int32) (a4 : Int32) : fr_MI2 yX9_lay cX9_lay 6 .int 2 44 fr_shX (fun w => [.ref (fr_ad w 0), .int a1, .int a2, .int a3, .int a4]) (fun σ => zX9_lay σ a1 a2 a3 a4) := by
  refine fr_mkI2 (by decide) (fun w => Nat.le_of_ble_eq_true rfl) (fun g w σ hg => ?_)
  show fr_V g w 6 (zX9_lay σ a1 a2 a3 a4) _ 0 [(0, .ref (fr_ad w 0)), (1, .int a1), (2, .int a2), (3, .int a3), (4, .int a4)] [] σ
  unfold zX9_lay
  refine fr_iload_n hg 1 rfl dX9_lay_0 rfl ?_
  refine fr_ci0 hg (mX9_isSheet a1) (fr_crS hg mo_X9_132 rfl (by decide) (by decide) (Nat.le_of_ble_eq_true rfl) dX9_lay_1 rfl) rfl ?_
  refine fr_if_eq hg (m := 14) dX9_lay_4 (by decide) rfl ?_ ?_
  · refine fr_bipush hg (v := (-2)) (by decide) dX9_lay_14 rfl ?_
    exact fr_iret hg (rty := .int) rfl dX9_lay_16 (fun h => h)
  · refine fr_iload_n hg 2 rfl dX9_lay_7 rfl ?_
    refine fr_ci0 hg (mX9_isForm a2) (fr_crS hg mo_X9_255 rfl (by decide) (by decide) (Nat.le_of_ble_eq_true rfl) dX9_lay_8 rfl) rfl ?_
    refine fr_if_ne hg (m := 17) dX9_lay_11 (by decide) rfl ?_ ?_
    · refine fr_aload_n hg 0 rfl dX9_lay_17 rfl ?_
      refine fr_getr hg (q := 0) (q' := 29) fo_X9_60 rfl rfl dX9_lay_18 rfl ?_
      refine fr_iload_n hg 1 rfl dX9_lay_21 rfl ?_
      refine fr_aaload hg (q := 29) (base := 30) rfl sx_29 dX9_lay_22 rfl (fun s1 hs1 => ?_)
      refine fr_iload_n hg 2 rfl dX9_lay_23 rfl ?_
      refine fr_iload_n hg 3 rfl dX9_lay_24 rfl ?_
      refine fr_ci0 hg (mX5_hindrance s1 hs1 a2 a3) (fr_crV hg (q := (30 + s1)) mo_X9_264 (sx_30 hs1) ⟨_, _, rfl⟩ rfl (by decide) (by decide) (Nat.le_of_ble_eq_true rfl) dX9_lay_25 rfl) rfl ?_
      refine fr_istore hg (ls' := [(0, .ref (fr_ad w 0)), (1, .int a1), (2, .int a2), (3, .int a3), (4, .int a4), (5, .int (zX5_hindrance σ s1 a2 a3))]) dX9_lay_28 (by decide) rfl rfl ?_
      refine fr_iload hg 5 rfl dX9_lay_30 rfl ?_
      refine fr_if_eq hg (m := 42) dX9_lay_32 (by decide) rfl ?_ ?_
      · refine fr_aload_n hg 0 rfl dX9_lay_42 rfl ?_
        refine fr_getr hg (q := 0) (q' := 29) fo_X9_60 rfl rfl dX9_lay_43 rfl ?_
        refine fr_iload_n hg 1 rfl dX9_lay_46 rfl ?_
        refine fr_aaload hg (q := 29) (base := 30) rfl sx_29 dX9_lay_47 rfl (fun s2 hs2 => ?_)
        refine fr_iload_n hg 3 rfl dX9_lay_48 rfl ?_
        refine fr_iload hg 4 rfl dX9_lay_49 rfl ?_
        refine fr_cv2 hg (mX5_put s2 hs2 a3 a4) (fr_crV hg (q := (30 + s2)) mo_X9_267 (sx_30 hs2) ⟨_, _, rfl⟩ rfl (by decide) (by decide) (Nat.le_of_ble_eq_true rfl) dX9_lay_51 rfl) rfl (fun σ3 => ?_)
        refine fr_iconst hg (v := 1) (by decide) dX9_lay_54 rfl ?_
        exact fr_iret hg (rty := .int) rfl dX9_lay_55 (fun h => h)
      · refine fr_aload_n hg 0 rfl dX9_lay_35 rfl ?_
        refine fr_iload hg 5 rfl dX9_lay_36 rfl ?_
        refine fr_ci2 hg (mX9_found (zX5_hindrance σ s1 a2 a3)) (fr_crV hg (q := 0) mo_X9_138 rfl ⟨_, _, rfl⟩ rfl (by decide) (by decide) (Nat.le_of_ble_eq_true rfl) dX9_lay_38 rfl) rfl (fun p5 => ?_)
        exact fr_iret hg (rty := .int) rfl dX9_lay_41 (fun h => h)
    · refine fr_bipush hg (v := (-2)) (by decide) dX9_lay_14 rfl ?_
      exact fr_iret hg (rty := .int) rfl dX9_lay_16 (fun h => h)
noncomputable def zX9_get (σ : fr_St) (a1 : Int32) (a2 : Int32) (a3 : Int32) : Option (Int32 × fr_St) :=
  if zX9_isSheet a1 = 0 then some ((-2147483648), σ) else if zX9_isForm a2 = 0 then some ((-2147483648), σ) else (fr_ar 4 a1).bind (fun s1 => if zX5_hindrance σ s1 a2 a3 = 0 then (fr_ar 4 a1).bind (fun s2 => (fr_al 60 σ (34 + s2) a3).bind (fun x3 => some (x3, σ))) else some ((-2147483648), (fr_put σ 0 9 (zX5_hindrance σ s1 a2 a3))))
set_option maxRecDepth 100000 in
set_option maxHeartbeats 4000000 in
theorem mX9_get (a1 : Int32) (a2 : Int32) (a3 : Int32) : fr_MI2 yX9_get cX9_get 5 .int 2 44 fr_shX (fun w => [.ref (fr_ad w 0), .int a1, .int a2, .int a3]) (fun σ => zX9_get σ a1 a2 a3) := by
  refine fr_mkI2 (by decide) (fun w => Nat.le_of_ble_eq_true rfl) (fun g w σ hg => ?_)
  show fr_V g w 5 (zX9_get σ a1 a2 a3) _ 0 [(0, .ref (fr_ad w 0)), (1, .int a1), (2, .int a2), (3, .int a3)] [] σ
  unfold zX9_get
  refine fr_iload_n hg 1 rfl dX9_get_0 rfl ?_
  refine fr_ci0 hg (mX9_isSheet a1) (fr_crS hg mo_X9_132 rfl (by decide) (by decide) (Nat.le_of_ble_eq_true rfl) dX9_get_1 rfl) rfl ?_
  refine fr_if_eq hg (m := 14) dX9_get_4 (by decide) rfl ?_ ?_
  · refine fr_ldcw hg cl_X9_269 dX9_get_14 rfl ?_
    exact fr_iret hg (rty := .int) rfl dX9_get_17 (fun h => h)
  · refine fr_iload_n hg 2 rfl dX9_get_7 rfl ?_
    refine fr_ci0 hg (mX9_isForm a2) (fr_crS hg mo_X9_255 rfl (by decide) (by decide) (Nat.le_of_ble_eq_true rfl) dX9_get_8 rfl) rfl ?_
    refine fr_if_ne hg (m := 18) dX9_get_11 (by decide) rfl ?_ ?_
    · refine fr_aload_n hg 0 rfl dX9_get_18 rfl ?_
      refine fr_getr hg (q := 0) (q' := 29) fo_X9_60 rfl rfl dX9_get_19 rfl ?_
      refine fr_iload_n hg 1 rfl dX9_get_22 rfl ?_
      refine fr_aaload hg (q := 29) (base := 30) rfl sx_29 dX9_get_23 rfl (fun s1 hs1 => ?_)
      refine fr_iload_n hg 2 rfl dX9_get_24 rfl ?_
      refine fr_iload_n hg 3 rfl dX9_get_25 rfl ?_
      refine fr_ci0 hg (mX5_hindrance s1 hs1 a2 a3) (fr_crV hg (q := (30 + s1)) mo_X9_264 (sx_30 hs1) ⟨_, _, rfl⟩ rfl (by decide) (by decide) (Nat.le_of_ble_eq_true rfl) dX9_get_26 rfl) rfl ?_
      refine fr_istore hg (ls' := [(0, .ref (fr_ad w 0)), (1, .int a1), (2, .int a2), (3, .int a3), (4, .int (zX5_hindrance σ s1 a2 a3))]) dX9_get_29 (by decide) rfl rfl ?_
      refine fr_iload hg 4 rfl dX9_get_31 rfl ?_
      refine fr_if_eq hg (m := 46) dX9_get_33 (by decide) rfl ?_ ?_
      · refine fr_aload_n hg 0 rfl dX9_get_46 rfl ?_
        refine fr_getr hg (q := 0) (q' := 29) fo_X9_60 rfl rfl dX9_get_47 rfl ?_
        refine fr_iload_n hg 1 rfl dX9_get_50 rfl ?_
        refine fr_aaload hg (q := 29) (base := 30) rfl sx_29 dX9_get_51 rfl (fun s2 hs2 => ?_)
        refine fr_getr hg (q := (30 + s2)) (q' := (34 + s2)) fo_X9_148 (sx_30 hs2) rfl dX9_get_52 rfl ?_
        refine fr_iload_n hg 3 rfl dX9_get_55 rfl ?_
        refine fr_iaload hg (q := (34 + s2)) (sx_34 hs2) dX9_get_56 rfl (fun x3 => ?_)
        exact fr_iret hg (rty := .int) rfl dX9_get_57 (fun h => h)
      · refine fr_aload_n hg 0 rfl dX9_get_36 rfl ?_
        refine fr_iload hg 4 rfl dX9_get_37 rfl ?_
        refine fr_puti hg (q := 0) fp_X9_68 rfl rfl rfl rfl dX9_get_39 rfl ?_
        refine fr_ldcw hg cl_X9_269 dX9_get_42 rfl ?_
        exact fr_iret hg (rty := .int) rfl dX9_get_45 (fun h => h)
    · refine fr_ldcw hg cl_X9_269 dX9_get_14 rfl ?_
      exact fr_iret hg (rty := .int) rfl dX9_get_17 (fun h => h)
