noncomputable def zX1_clearWithBoth_L26 (σ : fr_St) (k1 : Int32) (k2 : Int32) (k4 : Int32) (k5 : Int32) (v3 : Int32) (v6 : Int32) : Option ((Int32 × Int32) ⊕ ((Int32) ⊕ (Int32))) :=
  (fr_al 10 σ 23 k4).bind (fun x1 => if x1 ≤ v6 then some (.inr (.inr v3)) else if k5 ≤ v3 then some (.inr (.inr v3)) else (fr_dv v3 k1).bind (fun x2 => if v3 + ((k4 - x2) * k2) < k5 then some (.inl (v3 + ((k4 - x2) * k2), v6 + 1)) else some (.inr (.inl k5))))
noncomputable def zX1_clearWithBoth_L12 (σ : fr_St) (k1 : Int32) (k2 : Int32) (v3 : Int32) (v4 : Int32) : Option ((Int32 × Int32) ⊕ ((Int32) ⊕ (Int32))) :=
  if v4 ≤ 0 then some (.inr (.inr v3)) else (fr_loop (fun (b1 : Int32 × Int32) => zX1_clearWithBoth_L26 σ k1 k2 v4 (v4 * k1) b1.1 b1.2) fr_fu (v3, 0)).bind (fr_ei (fun r => some (.inr (.inl r))) (fun (c2 : Int32) => some (.inl (c2, v4 + (-1)))))
noncomputable def zX1_clearWithBoth (σ : fr_St) (a1 : Int32) (a2 : Int32) : Option (Int32) :=
  if 0 < a1 then (fr_loop (fun (b1 : Int32 × Int32) => zX1_clearWithBoth_L12 σ a1 a2 b1.1 b1.2) fr_fu (0, 9)).bind (fr_ei (fun r => some r) (fun (c2 : Int32) => some c2)) else some 0
set_option maxRecDepth 100000 in
set_option maxHeartbeats 4000000 in
theorem mX1_clearWithBoth (a1 : Int32) (a2 : Int32) : fr_MI1 yX1_clearWithBoth cX1_clearWithBoth 8 .int 0 0 fr_shX (fun w => [.ref (fr_ad w 17), .int a1, .int a2]) (fun σ => zX1_clearWithBoth σ a1 a2) := by
  refine fr_mkI1 (by decide) (fun w => Nat.le_of_ble_eq_true rfl) (fun g w σ hg => ?_)
  show fr_V g w 8 (zX1_clearWithBoth σ a1 a2) _ 0 [(0, .ref (fr_ad w 17)), (1, .int a1), (2, .int a2)] [] σ
  unfold zX1_clearWithBoth
  refine fr_iload_n hg 1 rfl dX1_clearWithBoth_0 rfl ?_
  refine fr_if_gt hg (m := 6) dX1_clearWithBoth_1 (by decide) rfl ?_ ?_
  · refine fr_iconst hg (v := 0) (by decide) dX1_clearWithBoth_6 rfl ?_
    refine fr_istore_n hg (ls' := [(0, .ref (fr_ad w 17)), (1, .int a1), (2, .int a2), (3, .int 0)]) dX1_clearWithBoth_7 rfl (by decide) rfl rfl ?_
    refine fr_bipush hg (v := 9) (by decide) dX1_clearWithBoth_8 rfl ?_
    refine fr_istore hg (ls' := [(0, .ref (fr_ad w 17)), (1, .int a1), (2, .int a2), (3, .int 0), (4, .int 9)]) dX1_clearWithBoth_10 (by decide) rfl rfl ?_
    refine fr_lpr (fun (b1 : Int32 × Int32) => [(0, .ref (fr_ad w 17)), (1, .int a1), (2, .int a2), (3, .int b1.1), (4, .int b1.2)]) (fun b1 => σ) 81 (fun (c2 : Int32) => [(3, .int c2)]) (fun c2 => σ) [0, 1, 2, 3, 4] rfl rfl (fun r => fr_RI g w .int r σ) (fun r t h1 h2 => ?_) (fun b1 => ?_) (fun c2 => ?_)
    · cases h1; exact h2
    · show fr_V g w _ (zX1_clearWithBoth_L12 σ a1 a2 b1.1 b1.2) _ _ _ _ _
      unfold zX1_clearWithBoth_L12
      refine fr_iload hg 4 rfl dX1_clearWithBoth_12 rfl ?_
      refine fr_if_le hg (m := 81) dX1_clearWithBoth_14 (by decide) rfl ?_ ?_
      · exact fr_leaf [3] rfl (fun h => h)
      · refine fr_iload hg 4 rfl dX1_clearWithBoth_17 rfl ?_
        refine fr_iload_n hg 1 rfl dX1_clearWithBoth_19 rfl ?_
        refine fr_imul hg dX1_clearWithBoth_20 rfl ?_
        refine fr_istore hg (ls' := [(0, .ref (fr_ad w 17)), (1, .int a1), (2, .int a2), (3, .int b1.1), (4, .int b1.2), (5, .int (b1.2 * a1))]) dX1_clearWithBoth_21 (by decide) rfl rfl ?_
        refine fr_iconst hg (v := 0) (by decide) dX1_clearWithBoth_23 rfl ?_
        refine fr_istore hg (ls' := [(0, .ref (fr_ad w 17)), (1, .int a1), (2, .int a2), (3, .int b1.1), (4, .int b1.2), (5, .int (b1.2 * a1)), (6, .int 0)]) dX1_clearWithBoth_24 (by decide) rfl rfl ?_
        refine fr_lpr (fun (b3 : Int32 × Int32) => [(0, .ref (fr_ad w 17)), (1, .int a1), (2, .int a2), (3, .int b3.1), (4, .int b1.2), (5, .int (b1.2 * a1)), (6, .int b3.2)]) (fun b3 => σ) 75 (fun (c4 : Int32) => [(0, .ref (fr_ad w 17)), (1, .int a1), (2, .int a2), (3, .int c4), (4, .int b1.2)]) (fun c4 => σ) [0, 1, 2, 3, 4, 5, 6] rfl rfl (fun r => fr_RI g w .int r σ) (fun r t h1 h2 => ?_) (fun b3 => ?_) (fun c4 => ?_)
        · cases h1; exact h2
        · show fr_V g w _ (zX1_clearWithBoth_L26 σ a1 a2 b1.2 (b1.2 * a1) b3.1 b3.2) _ _ _ _ _
          unfold zX1_clearWithBoth_L26
          refine fr_iload hg 6 rfl dX1_clearWithBoth_26 rfl ?_
          refine fr_aload_n hg 0 rfl dX1_clearWithBoth_28 rfl ?_
          refine fr_getr hg (q := 17) (q' := 23) fo_X1_27 rfl rfl dX1_clearWithBoth_29 rfl ?_
          refine fr_iload hg 4 rfl dX1_clearWithBoth_32 rfl ?_
          refine fr_iaload hg (q := 23) rfl dX1_clearWithBoth_34 rfl (fun x5 => ?_)
          refine fr_icmp_ge hg (m := 75) dX1_clearWithBoth_35 (by decide) rfl ?_ ?_
          · exact fr_leaf [0, 1, 2, 3, 4] rfl (fun h => h)
          · refine fr_iload_n hg 3 rfl dX1_clearWithBoth_38 rfl ?_
            refine fr_iload hg 5 rfl dX1_clearWithBoth_39 rfl ?_
            refine fr_icmp_ge hg (m := 75) dX1_clearWithBoth_41 (by decide) rfl ?_ ?_
            · exact fr_leaf [0, 1, 2, 3, 4] rfl (fun h => h)
            · refine fr_iload_n hg 3 rfl dX1_clearWithBoth_44 rfl ?_
              refine fr_iload hg 4 rfl dX1_clearWithBoth_45 rfl ?_
              refine fr_iload_n hg 3 rfl dX1_clearWithBoth_47 rfl ?_
              refine fr_iload_n hg 1 rfl dX1_clearWithBoth_48 rfl ?_
              refine fr_idiv hg dX1_clearWithBoth_49 rfl (fun x6 => ?_)
              refine fr_isub hg dX1_clearWithBoth_50 rfl ?_
              refine fr_iload_n hg 2 rfl dX1_clearWithBoth_51 rfl ?_
              refine fr_imul hg dX1_clearWithBoth_52 rfl ?_
              refine fr_iadd hg dX1_clearWithBoth_53 rfl ?_
              refine fr_istore hg (ls' := [(0, .ref (fr_ad w 17)), (1, .int a1), (2, .int a2), (3, .int b3.1), (4, .int b1.2), (5, .int (b1.2 * a1)), (6, .int b3.2), (7, .int (b3.1 + ((b1.2 - x6) * a2)))]) dX1_clearWithBoth_54 (by decide) rfl rfl ?_
              refine fr_iload hg 5 rfl dX1_clearWithBoth_56 rfl ?_
              refine fr_iload hg 7 rfl dX1_clearWithBoth_58 rfl ?_
              refine fr_icmp_gt hg (m := 66) dX1_clearWithBoth_60 (by decide) rfl ?_ ?_
              · refine fr_iload hg 7 rfl dX1_clearWithBoth_66 rfl ?_
                refine fr_istore_n hg (ls' := [(0, .ref (fr_ad w 17)), (1, .int a1), (2, .int a2), (3, .int (b3.1 + ((b1.2 - x6) * a2))), (4, .int b1.2), (5, .int (b1.2 * a1)), (6, .int b3.2), (7, .int (b3.1 + ((b1.2 - x6) * a2)))]) dX1_clearWithBoth_68 rfl (by decide) rfl rfl ?_
                refine fr_iinc hg 6 (v := b3.2 + 1) (ls' := [(0, .ref (fr_ad w 17)), (1, .int a1), (2, .int a2), (3, .int (b3.1 + ((b1.2 - x6) * a2))), (4, .int b1.2), (5, .int (b1.2 * a1)), (6, .int (b3.2 + 1)), (7, .int (b3.1 + ((b1.2 - x6) * a2)))]) dX1_clearWithBoth_69 rfl rfl (by decide) rfl rfl ?_
                refine fr_goto hg (n := 26) dX1_clearWithBoth_72 (by decide) ?_
                exact fr_leaf [0, 1, 2, 3, 4, 5, 6] rfl (fun h => h)
              · refine fr_iload hg 5 rfl dX1_clearWithBoth_63 rfl ?_
                exact fr_iret hg (rty := .int) rfl dX1_clearWithBoth_65 (fun h => h)
        refine fr_iinc hg 4 (v := b1.2 + (-1)) (ls' := [(0, .ref (fr_ad w 17)), (1, .int a1), (2, .int a2), (3, .int c4), (4, .int (b1.2 + (-1)))]) dX1_clearWithBoth_75 rfl rfl (by decide) rfl rfl ?_
        refine fr_goto hg (n := 12) dX1_clearWithBoth_78 (by decide) ?_
        exact fr_leaf [0, 1, 2, 3, 4] rfl (fun h => h)
    refine fr_iload_n hg 0 rfl dX1_clearWithBoth_81 rfl ?_
    exact fr_iret hg (rty := .int) rfl dX1_clearWithBoth_82 (fun h => h)
  · refine fr_iconst hg (v := 0) (by decide) dX1_clearWithBoth_4 rfl ?_
    exact fr_iret hg (rty := .int) rfl dX1_clearWithBoth_5 (fun h => h)
noncomputable def zX9_warm (σ : fr_St) (a1 : Int32) (a2 : Int32) (a3 : Int32) : Option (Int32 × fr_St) :=
  if zX9_within a1 1 60 = 0 then some ((-2), σ) else if zX9_isTool a2 = 0 then some ((-2), σ) else if zX9_isPair a3 = 0 then some ((-2), σ) else if a3 = 0 then (zX9_settled σ).bind (fun p6 => (zX1_thickest p6.2).bind (fun r7 => some (r7 * a1, p6.2))) else (zX9_settled σ).bind (fun p2 => (fr_al 4 p2.2 10 a2).bind (fun x3 => (zX1_clearWithBoth p2.2 a1 x3).bind (fun r4 => some (r4, p2.2))))
set_option maxRecDepth 100000 in
set_option maxHeartbeats 4000000 in
theorem mX9_warm (a1 : Int32) (a2 : Int32) (a3 : Int32) : fr_MI2 yX9_warm cX9_warm 4 .int 4 88 fr_shX (fun w => [.ref (fr_ad w 0), .int a1, .int a2, .int a3]) (fun σ => zX9_warm σ a1 a2 a3) := by
  refine fr_mkI2 (by decide) (fun w => Nat.le_of_ble_eq_true rfl) (fun g w σ hg => ?_)
  show fr_V g w 4 (zX9_warm σ a1 a2 a3) _ 0 [(0, .ref (fr_ad w 0)), (1, .int a1), (2, .int a2), (3, .int a3)] [] σ
  unfold zX9_warm
  refine fr_iload_n hg 1 rfl dX9_warm_0 rfl ?_
  refine fr_iconst hg (v := 1) (by decide) dX9_warm_1 rfl ?_
  refine fr_bipush hg (v := 60) (by decide) dX9_warm_2 rfl ?_
  refine fr_ci0 hg (mX9_within a1 1 60) (fr_crS hg mo_X9_77 rfl (by decide) (by decide) (Nat.le_of_ble_eq_true rfl) dX9_warm_4 rfl) rfl ?_
  refine fr_if_eq hg (m := 24) dX9_warm_7 (by decide) rfl ?_ ?_
  · refine fr_bipush hg (v := (-2)) (by decide) dX9_warm_24 rfl ?_
    exact fr_iret hg (rty := .int) rfl dX9_warm_26 (fun h => h)
  · refine fr_iload_n hg 2 rfl dX9_warm_10 rfl ?_
    refine fr_ci0 hg (mX9_isTool a2) (fr_crS hg mo_X9_105 rfl (by decide) (by decide) (Nat.le_of_ble_eq_true rfl) dX9_warm_11 rfl) rfl ?_
    refine fr_if_eq hg (m := 24) dX9_warm_14 (by decide) rfl ?_ ?_
    · refine fr_bipush hg (v := (-2)) (by decide) dX9_warm_24 rfl ?_
      exact fr_iret hg (rty := .int) rfl dX9_warm_26 (fun h => h)
    · refine fr_iload_n hg 3 rfl dX9_warm_17 rfl ?_
      refine fr_ci0 hg (mX9_isPair a3) (fr_crS hg mo_X9_108 rfl (by decide) (by decide) (Nat.le_of_ble_eq_true rfl) dX9_warm_18 rfl) rfl ?_
      refine fr_if_ne hg (m := 27) dX9_warm_21 (by decide) rfl ?_ ?_
      · refine fr_iload_n hg 3 rfl dX9_warm_27 rfl ?_
        refine fr_if_ne hg (m := 41) dX9_warm_28 (by decide) rfl ?_ ?_
        · refine fr_aload_n hg 0 rfl dX9_warm_41 rfl ?_
          refine fr_cq2 hg mX9_settled (fr_crV hg (q := 0) mo_X9_155 rfl ⟨_, _, rfl⟩ rfl (by decide) (by decide) (Nat.le_of_ble_eq_true rfl) dX9_warm_42 rfl) rfl (fun p2 hp2 => ?_)
          refine fr_iload_n hg 1 rfl dX9_warm_45 rfl ?_
          refine fr_aload_n hg 0 rfl dX9_warm_46 rfl ?_
          refine fr_getr hg (q := 0) (q' := 9) fo_X9_26 rfl rfl dX9_warm_47 rfl ?_
          refine fr_getr hg (q := 9) (q' := 10) fo_X9_111 rfl rfl dX9_warm_50 rfl ?_
          refine fr_iload_n hg 2 rfl dX9_warm_53 rfl ?_
          refine fr_iaload hg (q := 10) rfl dX9_warm_54 rfl (fun x3 => ?_)
          refine fr_ci1 hg (mX1_clearWithBoth a1 x3) (fr_crV hg (q := 17) mo_X9_216 rfl ⟨_, _, rfl⟩ rfl (by decide) (by decide) (Nat.le_of_ble_eq_true rfl) dX9_warm_55 rfl) rfl (fun r4 => ?_)
          exact fr_iret hg (rty := .int) rfl dX9_warm_58 (fun h => h)
        · refine fr_aload_n hg 0 rfl dX9_warm_31 rfl ?_
          refine fr_cq2 hg mX9_settled (fr_crV hg (q := 0) mo_X9_155 rfl ⟨_, _, rfl⟩ rfl (by decide) (by decide) (Nat.le_of_ble_eq_true rfl) dX9_warm_32 rfl) rfl (fun p6 hp6 => ?_)
          refine fr_ci1 hg mX1_thickest (fr_crV hg (q := 17) mo_X9_212 rfl ⟨_, _, rfl⟩ rfl (by decide) (by decide) (Nat.le_of_ble_eq_true rfl) dX9_warm_35 rfl) rfl (fun r7 => ?_)
          refine fr_iload_n hg 1 rfl dX9_warm_38 rfl ?_
          refine fr_imul hg dX9_warm_39 rfl ?_
          exact fr_iret hg (rty := .int) rfl dX9_warm_40 (fun h => h)
      · refine fr_bipush hg (v := (-2)) (by decide) dX9_warm_24 rfl ?_
        exact fr_iret hg (rty := .int) rfl dX9_warm_26 (fun h => h)
def zX9_cracks (a1 : Int32) (a2 : Int32) : Int32 :=
  if a1 + a2 ≤ 40 then 0 else 1
theorem zbX9_cracks (a1 : Int32) (a2 : Int32) : zX9_cracks a1 a2 = 0 ∨ zX9_cracks a1 a2 = 1 := by
  unfold zX9_cracks
  first | exact Or.inl rfl | ((repeat' split) <;> first | exact Or.inl rfl | exact Or.inr rfl)
set_option maxRecDepth 100000 in
set_option maxHeartbeats 4000000 in
theorem mX9_cracks (a1 : Int32) (a2 : Int32) : fr_MI0 yX9_cracks cX9_cracks 2 .boolean 0 0 fr_shX (fun w => [.int a1, .int a2]) (fun σ => zX9_cracks a1 a2) := by
  refine fr_mkI0 (by decide) (fun w => Nat.le_of_ble_eq_true rfl) (fun g w σ hg => ?_)
  show fr_V g w 2 (some (zX9_cracks a1 a2)) _ 0 [(0, .int a1), (1, .int a2)] [] σ
  unfold zX9_cracks
  refine fr_iload_n hg 0 rfl dX9_cracks_0 rfl ?_
  refine fr_iload_n hg 1 rfl dX9_cracks_1 rfl ?_
  refine fr_iadd hg dX9_cracks_2 rfl ?_
  refine fr_bipush hg (v := 40) (by decide) dX9_cracks_3 rfl ?_
  refine fr_some_ite ?_
  refine fr_icmp_le hg (m := 12) dX9_cracks_5 (by decide) rfl ?_ ?_
  · refine fr_iconst hg (v := 0) (by decide) dX9_cracks_12 rfl ?_
    exact fr_iret hg (rty := .boolean) rfl dX9_cracks_13 (fun h => h)
  · refine fr_iconst hg (v := 1) (by decide) dX9_cracks_8 rfl ?_
    refine fr_goto hg (n := 13) dX9_cracks_9 (by decide) ?_
    exact fr_iret hg (rty := .boolean) rfl dX9_cracks_13 (fun h => h)
def zX9_crack (a1 : Int32) (a2 : Int32) : Int32 :=
  if zX9_within a1 (-1) 99 = 0 then (-2) else if zX9_within a2 0 30 = 0 then (-2) else if a1 = (-1) then 40 - a2 else if zX9_cracks a1 a2 = 0 then 0 else 1
set_option maxRecDepth 100000 in
set_option maxHeartbeats 4000000 in
theorem mX9_crack (a1 : Int32) (a2 : Int32) : fr_MI0 yX9_crack cX9_crack 3 .int 1 22 fr_shX (fun w => [.ref (fr_ad w 0), .int a1, .int a2]) (fun σ => zX9_crack a1 a2) := by
  refine fr_mkI0 (by decide) (fun w => Nat.le_of_ble_eq_true rfl) (fun g w σ hg => ?_)
  show fr_V g w 3 (some (zX9_crack a1 a2)) _ 0 [(0, .ref (fr_ad w 0)), (1, .int a1), (2, .int a2)] [] σ
  unfold zX9_crack
  refine fr_iload_n hg 1 rfl dX9_crack_0 rfl ?_
  refine fr_iconst hg (v := (-1)) (by decide) dX9_crack_1 rfl ?_
  refine fr_bipush hg (v := 99) (by decide) dX9_crack_2 rfl ?_
  refine fr_ci0 hg (mX9_within a1 (-1) 99) (fr_crS hg mo_X9_77 rfl (by decide) (by decide) (Nat.le_of_ble_eq_true rfl) dX9_crack_4 rfl) rfl ?_
  refine fr_some_ite ?_
  refine fr_if_eq hg (m := 20) dX9_crack_7 (by decide) rfl ?_ ?_
  · refine fr_bipush hg (v := (-2)) (by decide) dX9_crack_20 rfl ?_
    exact fr_iret hg (rty := .int) rfl dX9_crack_22 (fun h => h)
  · refine fr_iload_n hg 2 rfl dX9_crack_10 rfl ?_
    refine fr_iconst hg (v := 0) (by decide) dX9_crack_11 rfl ?_
    refine fr_bipush hg (v := 30) (by decide) dX9_crack_12 rfl ?_
    refine fr_ci0 hg (mX9_within a2 0 30) (fr_crS hg mo_X9_77 rfl (by decide) (by decide) (Nat.le_of_ble_eq_true rfl) dX9_crack_14 rfl) rfl ?_
    refine fr_some_ite ?_
    refine fr_if_ne hg (m := 23) dX9_crack_17 (by decide) rfl ?_ ?_
    · refine fr_iload_n hg 1 rfl dX9_crack_23 rfl ?_
      refine fr_iconst hg (v := (-1)) (by decide) dX9_crack_24 rfl ?_
      refine fr_some_ite ?_
      refine fr_icmp_ne hg (m := 33) dX9_crack_25 (by decide) rfl ?_ ?_
      · refine fr_iload_n hg 1 rfl dX9_crack_33 rfl ?_
        refine fr_iload_n hg 2 rfl dX9_crack_34 rfl ?_
        refine fr_ci0 hg (mX9_cracks a1 a2) (fr_crS hg mo_X9_219 rfl (by decide) (by decide) (Nat.le_of_ble_eq_true rfl) dX9_crack_35 rfl) rfl ?_
        refine fr_some_ite ?_
        refine fr_if_eq hg (m := 45) dX9_crack_38 (by decide) rfl ?_ ?_
        · refine fr_iconst hg (v := 0) (by decide) dX9_crack_45 rfl ?_
          exact fr_iret hg (rty := .int) rfl dX9_crack_46 (fun h => h)
        · refine fr_iconst hg (v := 1) (by decide) dX9_crack_41 rfl ?_
          refine fr_goto hg (n := 46) dX9_crack_42 (by decide) ?_
          exact fr_iret hg (rty := .int) rfl dX9_crack_46 (fun h => h)
      · refine fr_bipush hg (v := 40) (by decide) dX9_crack_28 rfl ?_
        refine fr_iload_n hg 2 rfl dX9_crack_30 rfl ?_
        refine fr_isub hg dX9_crack_31 rfl ?_
        exact fr_iret hg (rty := .int) rfl dX9_crack_32 (fun h => h)
    · refine fr_bipush hg (v := (-2)) (by decide) dX9_crack_20 rfl ?_
      exact fr_iret hg (rty := .int) rfl dX9_crack_22 (fun h => h)
noncomputable def zX1_clearedByCups_L14 (σ : fr_St) (k1 : Int32) (v3 : Int32) (v4 : Int32) (v5 : Int32) : Option ((Int32 × Int32 × Int32) ⊕ (Int32)) :=
  if 9 < v5 then some (.inr v3) else (fr_dv ((v5 + k1) - 1) k1).bind (fun x1 => (if x1 ≤ 0 then some 0 else (fr_al 10 σ 23 v5).bind (fun x3 => (fr_dv v4 x1).bind (fun x4 => some (if x4 < x3 then x4 else x3))) : Option (Int32)).bind (fun t2 => some (.inl (v3 + t2, v4 - (t2 * x1), v5 + 1))))
noncomputable def zX1_clearedByCups (σ : fr_St) (a1 : Int32) (a2 : Int32) : Option (Int32) :=
  if 0 < a1 then (fr_loop (fun (b1 : Int32 × Int32 × Int32) => zX1_clearedByCups_L14 σ a1 b1.1 b1.2.1 b1.2.2) fr_fu (0, a2, 1)).bind (fun (c2 : Int32) => some c2) else some 0
set_option maxRecDepth 100000 in
set_option maxHeartbeats 4000000 in
theorem mX1_clearedByCups (a1 : Int32) (a2 : Int32) : fr_MI1 yX1_clearedByCups cX1_clearedByCups 8 .int 1 21 fr_shX (fun w => [.ref (fr_ad w 17), .int a1, .int a2]) (fun σ => zX1_clearedByCups σ a1 a2) := by
  refine fr_mkI1 (by decide) (fun w => Nat.le_of_ble_eq_true rfl) (fun g w σ hg => ?_)
  show fr_V g w 8 (zX1_clearedByCups σ a1 a2) _ 0 [(0, .ref (fr_ad w 17)), (1, .int a1), (2, .int a2)] [] σ
  unfold zX1_clearedByCups
  refine fr_iload_n hg 1 rfl dX1_clearedByCups_0 rfl ?_
  refine fr_if_gt hg (m := 6) dX1_clearedByCups_1 (by decide) rfl ?_ ?_
  · refine fr_iconst hg (v := 0) (by decide) dX1_clearedByCups_6 rfl ?_
    refine fr_istore_n hg (ls' := [(0, .ref (fr_ad w 17)), (1, .int a1), (2, .int a2), (3, .int 0)]) dX1_clearedByCups_7 rfl (by decide) rfl rfl ?_
    refine fr_iload_n hg 2 rfl dX1_clearedByCups_8 rfl ?_
    refine fr_istore hg (ls' := [(0, .ref (fr_ad w 17)), (1, .int a1), (2, .int a2), (3, .int 0), (4, .int a2)]) dX1_clearedByCups_9 (by decide) rfl rfl ?_
    refine fr_iconst hg (v := 1) (by decide) dX1_clearedByCups_11 rfl ?_
    refine fr_istore hg (ls' := [(0, .ref (fr_ad w 17)), (1, .int a1), (2, .int a2), (3, .int 0), (4, .int a2), (5, .int 1)]) dX1_clearedByCups_12 (by decide) rfl rfl ?_
    refine fr_lp (fun (b1 : Int32 × Int32 × Int32) => [(0, .ref (fr_ad w 17)), (1, .int a1), (3, .int b1.1), (4, .int b1.2.1), (5, .int b1.2.2)]) (fun b1 => σ) 78 (fun (c2 : Int32) => [(3, .int c2)]) (fun c2 => σ) [0, 1, 3, 4, 5] rfl rfl (fun b1 => ?_) (fun c2 => ?_)
    · show fr_V g w _ (zX1_clearedByCups_L14 σ a1 b1.1 b1.2.1 b1.2.2) _ _ _ _ _
      unfold zX1_clearedByCups_L14
      refine fr_iload hg 4 rfl dX1_clearedByCups_14 rfl ?_
      refine fr_bipush hg (v := 9) (by decide) dX1_clearedByCups_16 rfl ?_
      refine fr_icmp_gt hg (m := 78) dX1_clearedByCups_18 (by decide) rfl ?_ ?_
      · exact fr_leaf [2] rfl (fun h => h)
      · refine fr_iload hg 4 rfl dX1_clearedByCups_21 rfl ?_
        refine fr_iload_n hg 1 rfl dX1_clearedByCups_23 rfl ?_
        refine fr_iadd hg dX1_clearedByCups_24 rfl ?_
        refine fr_iconst hg (v := 1) (by decide) dX1_clearedByCups_25 rfl ?_
        refine fr_isub hg dX1_clearedByCups_26 rfl ?_
        refine fr_iload_n hg 1 rfl dX1_clearedByCups_27 rfl ?_
        refine fr_idiv hg dX1_clearedByCups_28 rfl (fun x3 => ?_)
        refine fr_istore hg (ls' := [(0, .ref (fr_ad w 17)), (1, .int a1), (3, .int b1.1), (4, .int b1.2.1), (5, .int b1.2.2), (6, .int x3)]) dX1_clearedByCups_29 (by decide) rfl rfl ?_
        refine fr_iload hg 5 rfl dX1_clearedByCups_31 rfl ?_
        refine fr_join (m := 55) (lj := fun (t4 : Int32) => [(0, .ref (fr_ad w 17)), (1, .int a1), (3, .int b1.1), (4, .int b1.2.1), (5, .int b1.2.2), (6, .int x3)]) (sj := fun t4 => [.int t4]) (wj := fun t4 => σ) ?_ (fun t4 => ?_)
        · refine fr_if_le hg (m := 54) dX1_clearedByCups_33 (by decide) rfl ?_ ?_
          · refine fr_iconst hg (v := 0) (by decide) dX1_clearedByCups_54 rfl ?_
            exact fr_leaf [0, 1, 2, 3, 4, 5] rfl (fun h => h)
          · refine fr_aload_n hg 0 rfl dX1_clearedByCups_36 rfl ?_
            refine fr_getr hg (q := 17) (q' := 23) fo_X1_27 rfl rfl dX1_clearedByCups_37 rfl ?_
            refine fr_iload hg 4 rfl dX1_clearedByCups_40 rfl ?_
            refine fr_iaload hg (q := 23) rfl dX1_clearedByCups_42 rfl (fun x5 => ?_)
            refine fr_iload hg 3 rfl dX1_clearedByCups_43 rfl ?_
            refine fr_iload hg 5 rfl dX1_clearedByCups_45 rfl ?_
            refine fr_idiv hg dX1_clearedByCups_47 rfl (fun x6 => ?_)
            refine fr_min hg mo_X1_105 (by decide) (Nat.le_of_ble_eq_true rfl) dX1_clearedByCups_48 rfl ?_
            refine fr_goto hg (n := 55) dX1_clearedByCups_51 (by decide) ?_
            exact fr_leaf [0, 1, 2, 3, 4, 5] rfl (fun h => h)
        refine fr_istore hg (ls' := [(0, .ref (fr_ad w 17)), (1, .int a1), (3, .int b1.1), (4, .int b1.2.1), (5, .int b1.2.2), (6, .int x3), (7, .int t4)]) dX1_clearedByCups_55 (by decide) rfl rfl ?_
        refine fr_iload_n hg 2 rfl dX1_clearedByCups_57 rfl ?_
        refine fr_iload hg 6 rfl dX1_clearedByCups_58 rfl ?_
        refine fr_iadd hg dX1_clearedByCups_60 rfl ?_
        refine fr_istore_n hg (ls' := [(0, .ref (fr_ad w 17)), (1, .int a1), (3, .int (b1.1 + t4)), (4, .int b1.2.1), (5, .int b1.2.2), (6, .int x3), (7, .int t4)]) dX1_clearedByCups_61 rfl (by decide) rfl rfl ?_
        refine fr_iload hg 3 rfl dX1_clearedByCups_62 rfl ?_
        refine fr_iload hg 6 rfl dX1_clearedByCups_64 rfl ?_
        refine fr_iload hg 5 rfl dX1_clearedByCups_66 rfl ?_
        refine fr_imul hg dX1_clearedByCups_68 rfl ?_
        refine fr_isub hg dX1_clearedByCups_69 rfl ?_
        refine fr_istore hg (ls' := [(0, .ref (fr_ad w 17)), (1, .int a1), (3, .int (b1.1 + t4)), (4, .int (b1.2.1 - (t4 * x3))), (5, .int b1.2.2), (6, .int x3), (7, .int t4)]) dX1_clearedByCups_70 (by decide) rfl rfl ?_
        refine fr_iinc hg 4 (v := b1.2.2 + 1) (ls' := [(0, .ref (fr_ad w 17)), (1, .int a1), (3, .int (b1.1 + t4)), (4, .int (b1.2.1 - (t4 * x3))), (5, .int (b1.2.2 + 1)), (6, .int x3), (7, .int t4)]) dX1_clearedByCups_72 rfl rfl (by decide) rfl rfl ?_
        refine fr_goto hg (n := 14) dX1_clearedByCups_75 (by decide) ?_
        exact fr_leaf [0, 1, 2, 3, 4] rfl (fun h => h)
    refine fr_iload_n hg 0 rfl dX1_clearedByCups_78 rfl ?_
    exact fr_iret hg (rty := .int) rfl dX1_clearedByCups_79 (fun h => h)
  · refine fr_iconst hg (v := 0) (by decide) dX1_clearedByCups_4 rfl ?_
    exact fr_iret hg (rty := .int) rfl dX1_clearedByCups_5 (fun h => h)
noncomputable def zX9_melts (σ : fr_St) (a1 : Int32) (a2 : Int32) (a3 : Int32) : Option (Int32 × fr_St) :=
  if zX9_within a1 0 99 = 0 then some ((-2), σ) else if zX9_within a2 0 30 = 0 then some ((-2), σ) else if zX9_within a3 0 99 = 0 then some ((-2), σ) else if zX9_cracks a1 a2 = 0 then (zX9_settled σ).bind (fun p2 => (zX1_clearedByCups p2.2 (a1 / 10) a3).bind (fun r3 => some (r3, p2.2))) else some ((-3), σ)
set_option maxRecDepth 100000 in
set_option maxHeartbeats 4000000 in
theorem mX9_melts (a1 : Int32) (a2 : Int32) (a3 : Int32) : fr_MI2 yX9_melts cX9_melts 4 .int 4 88 fr_shX (fun w => [.ref (fr_ad w 0), .int a1, .int a2, .int a3]) (fun σ => zX9_melts σ a1 a2 a3) := by
  refine fr_mkI2 (by decide) (fun w => Nat.le_of_ble_eq_true rfl) (fun g w σ hg => ?_)
  show fr_V g w 4 (zX9_melts σ a1 a2 a3) _ 0 [(0, .ref (fr_ad w 0)), (1, .int a1), (2, .int a2), (3, .int a3)] [] σ
  unfold zX9_melts
  refine fr_iload_n hg 1 rfl dX9_melts_0 rfl ?_
  refine fr_iconst hg (v := 0) (by decide) dX9_melts_1 rfl ?_
  refine fr_bipush hg (v := 99) (by decide) dX9_melts_2 rfl ?_
  refine fr_ci0 hg (mX9_within a1 0 99) (fr_crS hg mo_X9_77 rfl (by decide) (by decide) (Nat.le_of_ble_eq_true rfl) dX9_melts_4 rfl) rfl ?_
  refine fr_if_eq hg (m := 30) dX9_melts_7 (by decide) rfl ?_ ?_
  · refine fr_bipush hg (v := (-2)) (by decide) dX9_melts_30 rfl ?_
    exact fr_iret hg (rty := .int) rfl dX9_melts_32 (fun h => h)
  · refine fr_iload_n hg 2 rfl dX9_melts_10 rfl ?_
    refine fr_iconst hg (v := 0) (by decide) dX9_melts_11 rfl ?_
    refine fr_bipush hg (v := 30) (by decide) dX9_melts_12 rfl ?_
    refine fr_ci0 hg (mX9_within a2 0 30) (fr_crS hg mo_X9_77 rfl (by decide) (by decide) (Nat.le_of_ble_eq_true rfl) dX9_melts_14 rfl) rfl ?_
    refine fr_if_eq hg (m := 30) dX9_melts_17 (by decide) rfl ?_ ?_
    · refine fr_bipush hg (v := (-2)) (by decide) dX9_melts_30 rfl ?_
      exact fr_iret hg (rty := .int) rfl dX9_melts_32 (fun h => h)
    · refine fr_iload_n hg 3 rfl dX9_melts_20 rfl ?_
      refine fr_iconst hg (v := 0) (by decide) dX9_melts_21 rfl ?_
      refine fr_bipush hg (v := 99) (by decide) dX9_melts_22 rfl ?_
      refine fr_ci0 hg (mX9_within a3 0 99) (fr_crS hg mo_X9_77 rfl (by decide) (by decide) (Nat.le_of_ble_eq_true rfl) dX9_melts_24 rfl) rfl ?_
      refine fr_if_ne hg (m := 33) dX9_melts_27 (by decide) rfl ?_ ?_
      · refine fr_iload_n hg 1 rfl dX9_melts_33 rfl ?_
        refine fr_iload_n hg 2 rfl dX9_melts_34 rfl ?_
        refine fr_ci0 hg (mX9_cracks a1 a2) (fr_crS hg mo_X9_219 rfl (by decide) (by decide) (Nat.le_of_ble_eq_true rfl) dX9_melts_35 rfl) rfl ?_
        refine fr_if_eq hg (m := 44) dX9_melts_38 (by decide) rfl ?_ ?_
        · refine fr_aload_n hg 0 rfl dX9_melts_44 rfl ?_
          refine fr_cq2 hg mX9_settled (fr_crV hg (q := 0) mo_X9_155 rfl ⟨_, _, rfl⟩ rfl (by decide) (by decide) (Nat.le_of_ble_eq_true rfl) dX9_melts_45 rfl) rfl (fun p2 hp2 => ?_)
          refine fr_iload_n hg 1 rfl dX9_melts_48 rfl ?_
          refine fr_bipush hg (v := 10) (by decide) dX9_melts_49 rfl ?_
          refine fr_idiv0 hg (by decide) dX9_melts_51 rfl ?_
          refine fr_iload_n hg 3 rfl dX9_melts_52 rfl ?_
          refine fr_ci1 hg (mX1_clearedByCups (a1 / 10) a3) (fr_crV hg (q := 17) mo_X9_223 rfl ⟨_, _, rfl⟩ rfl (by decide) (by decide) (Nat.le_of_ble_eq_true rfl) dX9_melts_53 rfl) rfl (fun r3 => ?_)
          exact fr_iret hg (rty := .int) rfl dX9_melts_56 (fun h => h)
        · refine fr_bipush hg (v := (-3)) (by decide) dX9_melts_41 rfl ?_
          exact fr_iret hg (rty := .int) rfl dX9_melts_43 (fun h => h)
      · refine fr_bipush hg (v := (-2)) (by decide) dX9_melts_30 rfl ?_
        exact fr_iret hg (rty := .int) rfl dX9_melts_32 (fun h => h)
noncomputable def zX9_again_L52 (k1 : Int32) (k2 : Int32) (k3 : Int32) (k4 : Int32) (v5 : Int32) (v6 : Int32) (v7 : Int32) (v8 : Int32) : Option ((Int32 × Int32 × Int32 × Int32) ⊕ (Int32 × Int32)) :=
  if 120 < v8 then some (.inr (v6, v7)) else (some (if v8 < k3 then (v5 + k1) else (if 0 < (v5 + k1) - k2 then (v5 + k1) - k2 else 0)) : Option (Int32)).bind (fun t1 => if t1 ≤ 10 then some (.inl (t1, v6, v7, v8 + 1)) else if v6 = (-1) then some (.inl (t1, v8, v8, v8 + 1)) else some (.inl (t1, v6, v8, v8 + 1)))
noncomputable def zX9_again (a1 : Int32) (a2 : Int32) (a3 : Int32) (a4 : Int32) : Option (Int32) :=
  if zX9_within a1 1 5 = 0 then some (-2) else if zX9_within a2 0 9 = 0 then some (-2) else if zX9_within a3 0 60 = 0 then some (-2) else if zX9_isPair a4 = 0 then some (-2) else (fr_loop (fun (b1 : Int32 × Int32 × Int32 × Int32) => zX9_again_L52 a1 a2 a3 a4 b1.1 b1.2.1 b1.2.2.1 b1.2.2.2) fr_fu (0, (-1), (-1), 0)).bind (fun (c2 : Int32 × Int32) => if a4 = 0 then some c2.1 else if c2.2 = 120 then some (-1) else some (c2.2 + 1))
set_option maxRecDepth 100000 in
set_option maxHeartbeats 4000000 in
theorem mX9_again (a1 : Int32) (a2 : Int32) (a3 : Int32) (a4 : Int32) : fr_MI1 yX9_again cX9_again 9 .int 2 42 fr_shX (fun w => [.ref (fr_ad w 0), .int a1, .int a2, .int a3, .int a4]) (fun σ => zX9_again a1 a2 a3 a4) := by
  refine fr_mkI1 (by decide) (fun w => Nat.le_of_ble_eq_true rfl) (fun g w σ hg => ?_)
  show fr_V g w 9 (zX9_again a1 a2 a3 a4) _ 0 [(0, .ref (fr_ad w 0)), (1, .int a1), (2, .int a2), (3, .int a3), (4, .int a4)] [] σ
  unfold zX9_again
  refine fr_iload_n hg 1 rfl dX9_again_0 rfl ?_
  refine fr_iconst hg (v := 1) (by decide) dX9_again_1 rfl ?_
  refine fr_iconst hg (v := 5) (by decide) dX9_again_2 rfl ?_
  refine fr_ci0 hg (mX9_within a1 1 5) (fr_crS hg mo_X9_77 rfl (by decide) (by decide) (Nat.le_of_ble_eq_true rfl) dX9_again_3 rfl) rfl ?_
  refine fr_if_eq hg (m := 37) dX9_again_6 (by decide) rfl ?_ ?_
  · refine fr_bipush hg (v := (-2)) (by decide) dX9_again_37 rfl ?_
    exact fr_iret hg (rty := .int) rfl dX9_again_39 (fun h => h)
  · refine fr_iload_n hg 2 rfl dX9_again_9 rfl ?_
    refine fr_iconst hg (v := 0) (by decide) dX9_again_10 rfl ?_
    refine fr_bipush hg (v := 9) (by decide) dX9_again_11 rfl ?_
    refine fr_ci0 hg (mX9_within a2 0 9) (fr_crS hg mo_X9_77 rfl (by decide) (by decide) (Nat.le_of_ble_eq_true rfl) dX9_again_13 rfl) rfl ?_
    refine fr_if_eq hg (m := 37) dX9_again_16 (by decide) rfl ?_ ?_
    · refine fr_bipush hg (v := (-2)) (by decide) dX9_again_37 rfl ?_
      exact fr_iret hg (rty := .int) rfl dX9_again_39 (fun h => h)
    · refine fr_iload_n hg 3 rfl dX9_again_19 rfl ?_
      refine fr_iconst hg (v := 0) (by decide) dX9_again_20 rfl ?_
      refine fr_bipush hg (v := 60) (by decide) dX9_again_21 rfl ?_
      refine fr_ci0 hg (mX9_within a3 0 60) (fr_crS hg mo_X9_77 rfl (by decide) (by decide) (Nat.le_of_ble_eq_true rfl) dX9_again_23 rfl) rfl ?_
      refine fr_if_eq hg (m := 37) dX9_again_26 (by decide) rfl ?_ ?_
      · refine fr_bipush hg (v := (-2)) (by decide) dX9_again_37 rfl ?_
        exact fr_iret hg (rty := .int) rfl dX9_again_39 (fun h => h)
      · refine fr_iload hg 4 rfl dX9_again_29 rfl ?_
        refine fr_ci0 hg (mX9_isPair a4) (fr_crS hg mo_X9_108 rfl (by decide) (by decide) (Nat.le_of_ble_eq_true rfl) dX9_again_31 rfl) rfl ?_
        refine fr_if_ne hg (m := 40) dX9_again_34 (by decide) rfl ?_ ?_
        · refine fr_iconst hg (v := 0) (by decide) dX9_again_40 rfl ?_
          refine fr_istore hg (ls' := [(0, .ref (fr_ad w 0)), (1, .int a1), (2, .int a2), (3, .int a3), (4, .int a4), (5, .int 0)]) dX9_again_41 (by decide) rfl rfl ?_
          refine fr_iconst hg (v := (-1)) (by decide) dX9_again_43 rfl ?_
          refine fr_istore hg (ls' := [(0, .ref (fr_ad w 0)), (1, .int a1), (2, .int a2), (3, .int a3), (4, .int a4), (5, .int 0), (6, .int (-1))]) dX9_again_44 (by decide) rfl rfl ?_
          refine fr_iconst hg (v := (-1)) (by decide) dX9_again_46 rfl ?_
          refine fr_istore hg (ls' := [(0, .ref (fr_ad w 0)), (1, .int a1), (2, .int a2), (3, .int a3), (4, .int a4), (5, .int 0), (6, .int (-1)), (7, .int (-1))]) dX9_again_47 (by decide) rfl rfl ?_
          refine fr_iconst hg (v := 0) (by decide) dX9_again_49 rfl ?_
          refine fr_istore hg (ls' := [(0, .ref (fr_ad w 0)), (1, .int a1), (2, .int a2), (3, .int a3), (4, .int a4), (5, .int 0), (6, .int (-1)), (7, .int (-1)), (8, .int 0)]) dX9_again_50 (by decide) rfl rfl ?_
          refine fr_lp (fun (b1 : Int32 × Int32 × Int32 × Int32) => [(1, .int a1), (2, .int a2), (3, .int a3), (4, .int a4), (5, .int b1.1), (6, .int b1.2.1), (7, .int b1.2.2.1), (8, .int b1.2.2.2)]) (fun b1 => σ) 113 (fun (c2 : Int32 × Int32) => [(4, .int a4), (6, .int c2.1), (7, .int c2.2)]) (fun c2 => σ) [1, 2, 3, 4, 5, 6, 7, 8] rfl rfl (fun b1 => ?_) (fun c2 => ?_)
          · show fr_V g w _ (zX9_again_L52 a1 a2 a3 a4 b1.1 b1.2.1 b1.2.2.1 b1.2.2.2) _ _ _ _ _
            unfold zX9_again_L52
            refine fr_iload hg 7 rfl dX9_again_52 rfl ?_
            refine fr_bipush hg (v := 120) (by decide) dX9_again_54 rfl ?_
            refine fr_icmp_gt hg (m := 113) dX9_again_56 (by decide) rfl ?_ ?_
            · exact fr_leaf [3, 5, 6] rfl (fun h => h)
            · refine fr_iload hg 4 rfl dX9_again_59 rfl ?_
              refine fr_iload_n hg 0 rfl dX9_again_61 rfl ?_
              refine fr_iadd hg dX9_again_62 rfl ?_
              refine fr_istore hg (ls' := [(1, .int a1), (2, .int a2), (3, .int a3), (4, .int a4), (5, .int (b1.1 + a1)), (6, .int b1.2.1), (7, .int b1.2.2.1), (8, .int b1.2.2.2)]) dX9_again_63 (by decide) rfl rfl ?_
              refine fr_iload hg 7 rfl dX9_again_65 rfl ?_
              refine fr_iload_n hg 2 rfl dX9_again_67 rfl ?_
              refine fr_join (m := 81) (lj := fun (t3 : Int32) => [(1, .int a1), (2, .int a2), (3, .int a3), (4, .int a4), (5, .int t3), (6, .int b1.2.1), (7, .int b1.2.2.1), (8, .int b1.2.2.2)]) (sj := fun t3 => []) (wj := fun t3 => σ) ?_ (fun t3 => ?_)
              · refine fr_some_ite ?_
                refine fr_icmp_lt hg (m := 81) dX9_again_68 (by decide) rfl ?_ ?_
                · exact fr_leaf [0, 1, 2, 3, 4, 5, 6, 7] rfl (fun h => h)
                · refine fr_iconst hg (v := 0) (by decide) dX9_again_71 rfl ?_
                  refine fr_iload hg 4 rfl dX9_again_72 rfl ?_
                  refine fr_iload_n hg 1 rfl dX9_again_74 rfl ?_
                  refine fr_isub hg dX9_again_75 rfl ?_
                  refine fr_max hg mo_X9_226 (by decide) (Nat.le_of_ble_eq_true rfl) dX9_again_76 rfl ?_
                  refine fr_istore hg (ls' := [(1, .int a1), (2, .int a2), (3, .int a3), (4, .int a4), (5, .int (if 0 < (b1.1 + a1) - a2 then (b1.1 + a1) - a2 else 0)), (6, .int b1.2.1), (7, .int b1.2.2.1), (8, .int b1.2.2.2)]) dX9_again_79 (by decide) rfl rfl ?_
                  exact fr_leaf [0, 1, 2, 3, 4, 5, 6, 7] rfl (fun h => h)
              refine fr_iload hg 4 rfl dX9_again_81 rfl ?_
              refine fr_bipush hg (v := 10) (by decide) dX9_again_83 rfl ?_
              refine fr_icmp_le hg (m := 107) dX9_again_85 (by decide) rfl ?_ ?_
              · refine fr_iinc hg 7 (v := b1.2.2.2 + 1) (ls' := [(1, .int a1), (2, .int a2), (3, .int a3), (4, .int a4), (5, .int t3), (6, .int b1.2.1), (7, .int b1.2.2.1), (8, .int (b1.2.2.2 + 1))]) dX9_again_107 rfl rfl (by decide) rfl rfl ?_
                refine fr_goto hg (n := 52) dX9_again_110 (by decide) ?_
                exact fr_leaf [0, 1, 2, 3, 4, 5, 6, 7] rfl (fun h => h)
              · refine fr_iload hg 5 rfl dX9_again_88 rfl ?_
                refine fr_iconst hg (v := (-1)) (by decide) dX9_again_90 rfl ?_
                refine fr_icmp_ne hg (m := 99) dX9_again_91 (by decide) rfl ?_ ?_
                · refine fr_iload hg 5 rfl dX9_again_99 rfl ?_
                  refine fr_istore hg (ls' := [(1, .int a1), (2, .int a2), (3, .int a3), (4, .int a4), (5, .int t3), (6, .int b1.2.1), (7, .int b1.2.2.1), (8, .int b1.2.2.2)]) dX9_again_101 (by decide) rfl rfl ?_
                  refine fr_iload hg 7 rfl dX9_again_103 rfl ?_
                  refine fr_istore hg (ls' := [(1, .int a1), (2, .int a2), (3, .int a3), (4, .int a4), (5, .int t3), (6, .int b1.2.1), (7, .int b1.2.2.2), (8, .int b1.2.2.2)]) dX9_again_105 (by decide) rfl rfl ?_
                  refine fr_iinc hg 7 (v := b1.2.2.2 + 1) (ls' := [(1, .int a1), (2, .int a2), (3, .int a3), (4, .int a4), (5, .int t3), (6, .int b1.2.1), (7, .int b1.2.2.2), (8, .int (b1.2.2.2 + 1))]) dX9_again_107 rfl rfl (by decide) rfl rfl ?_
                  refine fr_goto hg (n := 52) dX9_again_110 (by decide) ?_
                  exact fr_leaf [0, 1, 2, 3, 4, 5, 6, 7] rfl (fun h => h)
                · refine fr_iload hg 7 rfl dX9_again_94 rfl ?_
                  refine fr_goto hg (n := 101) dX9_again_96 (by decide) ?_
                  refine fr_istore hg (ls' := [(1, .int a1), (2, .int a2), (3, .int a3), (4, .int a4), (5, .int t3), (6, .int b1.2.2.2), (7, .int b1.2.2.1), (8, .int b1.2.2.2)]) dX9_again_101 (by decide) rfl rfl ?_
                  refine fr_iload hg 7 rfl dX9_again_103 rfl ?_
                  refine fr_istore hg (ls' := [(1, .int a1), (2, .int a2), (3, .int a3), (4, .int a4), (5, .int t3), (6, .int b1.2.2.2), (7, .int b1.2.2.2), (8, .int b1.2.2.2)]) dX9_again_105 (by decide) rfl rfl ?_
                  refine fr_iinc hg 7 (v := b1.2.2.2 + 1) (ls' := [(1, .int a1), (2, .int a2), (3, .int a3), (4, .int a4), (5, .int t3), (6, .int b1.2.2.2), (7, .int b1.2.2.2), (8, .int (b1.2.2.2 + 1))]) dX9_again_107 rfl rfl (by decide) rfl rfl ?_
                  refine fr_goto hg (n := 52) dX9_again_110 (by decide) ?_
                  exact fr_leaf [0, 1, 2, 3, 4, 5, 6, 7] rfl (fun h => h)
          refine fr_iload hg 0 rfl dX9_again_113 rfl ?_
          refine fr_if_ne hg (m := 121) dX9_again_115 (by decide) rfl ?_ ?_
          · refine fr_iload hg 2 rfl dX9_again_121 rfl ?_
            refine fr_bipush hg (v := 120) (by decide) dX9_again_123 rfl ?_
            refine fr_icmp_ne hg (m := 132) dX9_again_125 (by decide) rfl ?_ ?_
            · refine fr_iload hg 2 rfl dX9_again_132 rfl ?_
              refine fr_iconst hg (v := 1) (by decide) dX9_again_134 rfl ?_
              refine fr_iadd hg dX9_again_135 rfl ?_
              exact fr_iret hg (rty := .int) rfl dX9_again_136 (fun h => h)
            · refine fr_iconst hg (v := (-1)) (by decide) dX9_again_128 rfl ?_
              refine fr_goto hg (n := 136) dX9_again_129 (by decide) ?_
              exact fr_iret hg (rty := .int) rfl dX9_again_136 (fun h => h)
          · refine fr_iload hg 1 rfl dX9_again_118 rfl ?_
            exact fr_iret hg (rty := .int) rfl dX9_again_120 (fun h => h)
        · refine fr_bipush hg (v := (-2)) (by decide) dX9_again_37 rfl ?_
          exact fr_iret hg (rty := .int) rfl dX9_again_39 (fun h => h)
def zX9_frostOf (a1 : Int32) (a2 : Int32) (a3 : Int32) : Int32 :=
  if a3 = 1 then (if 0 < (6 - (4 * a1)) - a2 then (6 - (4 * a1)) - a2 else 0) - ((if 0 < (6 - (4 * a1)) - a2 then (6 - (4 * a1)) - a2 else 0) / 2) else (if 0 < (6 - (4 * a1)) - a2 then (6 - (4 * a1)) - a2 else 0)
set_option maxRecDepth 100000 in
set_option maxHeartbeats 4000000 in
theorem mX9_frostOf (a1 : Int32) (a2 : Int32) (a3 : Int32) : fr_MI0 yX9_frostOf cX9_frostOf 4 .int 1 21 fr_shX (fun w => [.int a1, .int a2, .int a3]) (fun σ => zX9_frostOf a1 a2 a3) := by
  refine fr_mkI0 (by decide) (fun w => Nat.le_of_ble_eq_true rfl) (fun g w σ hg => ?_)
  show fr_V g w 4 (some (zX9_frostOf a1 a2 a3)) _ 0 [(0, .int a1), (1, .int a2), (2, .int a3)] [] σ
  unfold zX9_frostOf
  refine fr_iconst hg (v := 0) (by decide) dX9_frostOf_0 rfl ?_
  refine fr_bipush hg (v := 6) (by decide) dX9_frostOf_1 rfl ?_
  refine fr_iconst hg (v := 4) (by decide) dX9_frostOf_3 rfl ?_
  refine fr_iload_n hg 0 rfl dX9_frostOf_4 rfl ?_
  refine fr_imul hg dX9_frostOf_5 rfl ?_
  refine fr_isub hg dX9_frostOf_6 rfl ?_
  refine fr_iload_n hg 1 rfl dX9_frostOf_7 rfl ?_
  refine fr_isub hg dX9_frostOf_8 rfl ?_
  refine fr_max hg mo_X9_226 (by decide) (Nat.le_of_ble_eq_true rfl) dX9_frostOf_9 rfl ?_
  refine fr_istore_n hg (ls' := [(0, .int a1), (1, .int a2), (2, .int a3), (3, .int (if 0 < (6 - (4 * a1)) - a2 then (6 - (4 * a1)) - a2 else 0))]) dX9_frostOf_12 rfl (by decide) rfl rfl ?_
  refine fr_iload_n hg 2 rfl dX9_frostOf_13 rfl ?_
  refine fr_iconst hg (v := 1) (by decide) dX9_frostOf_14 rfl ?_
  refine fr_some_ite ?_
  refine fr_icmp_ne hg (m := 26) dX9_frostOf_15 (by decide) rfl ?_ ?_
  · refine fr_iload_n hg 3 rfl dX9_frostOf_26 rfl ?_
    exact fr_iret hg (rty := .int) rfl dX9_frostOf_27 (fun h => h)
  · refine fr_iload_n hg 3 rfl dX9_frostOf_18 rfl ?_
    refine fr_iload_n hg 3 rfl dX9_frostOf_19 rfl ?_
    refine fr_iconst hg (v := 2) (by decide) dX9_frostOf_20 rfl ?_
    refine fr_idiv0 hg (by decide) dX9_frostOf_21 rfl ?_
    refine fr_isub hg dX9_frostOf_22 rfl ?_
    refine fr_goto hg (n := 27) dX9_frostOf_23 (by decide) ?_
    exact fr_iret hg (rty := .int) rfl dX9_frostOf_27 (fun h => h)
def zX9_night (a1 : Int32) (a2 : Int32) (a3 : Int32) : Int32 :=
  if zX9_isPair a1 = 0 then (-2) else if zX9_within a2 0 3 = 0 then (-2) else if zX9_isPair a3 = 0 then (-2) else zX9_frostOf a1 a2 a3
set_option maxRecDepth 100000 in
set_option maxHeartbeats 4000000 in
theorem mX9_night (a1 : Int32) (a2 : Int32) (a3 : Int32) : fr_MI0 yX9_night cX9_night 4 .int 2 44 fr_shX (fun w => [.ref (fr_ad w 0), .int a1, .int a2, .int a3]) (fun σ => zX9_night a1 a2 a3) := by
  refine fr_mkI0 (by decide) (fun w => Nat.le_of_ble_eq_true rfl) (fun g w σ hg => ?_)
  show fr_V g w 4 (some (zX9_night a1 a2 a3)) _ 0 [(0, .ref (fr_ad w 0)), (1, .int a1), (2, .int a2), (3, .int a3)] [] σ
  unfold zX9_night
  refine fr_iload_n hg 1 rfl dX9_night_0 rfl ?_
  refine fr_ci0 hg (mX9_isPair a1) (fr_crS hg mo_X9_108 rfl (by decide) (by decide) (Nat.le_of_ble_eq_true rfl) dX9_night_1 rfl) rfl ?_
  refine fr_some_ite ?_
  refine fr_if_eq hg (m := 23) dX9_night_4 (by decide) rfl ?_ ?_
  · refine fr_bipush hg (v := (-2)) (by decide) dX9_night_23 rfl ?_
    exact fr_iret hg (rty := .int) rfl dX9_night_25 (fun h => h)
  · refine fr_iload_n hg 2 rfl dX9_night_7 rfl ?_
    refine fr_iconst hg (v := 0) (by decide) dX9_night_8 rfl ?_
    refine fr_iconst hg (v := 3) (by decide) dX9_night_9 rfl ?_
    refine fr_ci0 hg (mX9_within a2 0 3) (fr_crS hg mo_X9_77 rfl (by decide) (by decide) (Nat.le_of_ble_eq_true rfl) dX9_night_10 rfl) rfl ?_
    refine fr_some_ite ?_
    refine fr_if_eq hg (m := 23) dX9_night_13 (by decide) rfl ?_ ?_
    · refine fr_bipush hg (v := (-2)) (by decide) dX9_night_23 rfl ?_
      exact fr_iret hg (rty := .int) rfl dX9_night_25 (fun h => h)
    · refine fr_iload_n hg 3 rfl dX9_night_16 rfl ?_
      refine fr_ci0 hg (mX9_isPair a3) (fr_crS hg mo_X9_108 rfl (by decide) (by decide) (Nat.le_of_ble_eq_true rfl) dX9_night_17 rfl) rfl ?_
      refine fr_some_ite ?_
      refine fr_if_ne hg (m := 26) dX9_night_20 (by decide) rfl ?_ ?_
      · refine fr_iload_n hg 1 rfl dX9_night_26 rfl ?_
        refine fr_iload_n hg 2 rfl dX9_night_27 rfl ?_
        refine fr_iload_n hg 3 rfl dX9_night_28 rfl ?_
        refine fr_ci0 hg (mX9_frostOf a1 a2 a3) (fr_crS hg mo_X9_229 rfl (by decide) (by decide) (Nat.le_of_ble_eq_true rfl) dX9_night_29 rfl) rfl ?_
        exact fr_iret hg (rty := .int) rfl dX9_night_32 (fun h => h)
      · refine fr_bipush hg (v := (-2)) (by decide) dX9_night_23 rfl ?_
        exact fr_iret hg (rty := .int) rfl dX9_night_25 (fun h => h)
