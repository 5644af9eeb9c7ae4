def zX5_isLost (σ : fr_St) (s : Nat) : Int32 :=
  if σ (30 + s) 1 = (-1) then 1 else 0
theorem zbX5_isLost (σ : fr_St) (s : Nat) : zX5_isLost σ s = 0 ∨ zX5_isLost σ s = 1 := by
  unfold zX5_isLost
  first | exact Or.inl rfl | ((repeat' split) <;> first | exact Or.inl rfl | exact Or.inr rfl)
set_option maxRecDepth 100000 in
set_option maxHeartbeats 4000000 in
theorem mX5_isLost (s : Nat) (hs : s < 4) : fr_MI0 yX5_isLost cX5_isLost 1 .boolean 0 0 fr_shX (fun w => [.ref (fr_ad w (30 + s))]) (fun σ => zX5_isLost σ s) := by
  refine fr_mkI0 (by decide) (fun w => Nat.le_of_ble_eq_true rfl) (fun g w σ hg => ?_)
  show fr_V g w 1 (some (zX5_isLost σ s)) _ 0 [(0, .ref (fr_ad w (30 + s)))] [] σ
  unfold zX5_isLost
  refine fr_aload_n hg 0 rfl dX5_isLost_0 rfl ?_
  refine fr_geti hg (q := (30 + s)) fo_X5_15 (sx_30 hs) rfl dX5_isLost_1 rfl ?_
  refine fr_iconst hg (v := (-1)) (by decide) dX5_isLost_4 rfl ?_
  refine fr_some_ite ?_
  refine fr_icmp_ne hg (m := 12) dX5_isLost_5 (by decide) rfl ?_ ?_
  · refine fr_iconst hg (v := 0) (by decide) dX5_isLost_12 rfl ?_
    exact fr_iret hg (rty := .boolean) rfl dX5_isLost_13 (fun h => h)
  · refine fr_iconst hg (v := 1) (by decide) dX5_isLost_8 rfl ?_
    refine fr_goto hg (n := 13) dX5_isLost_9 (by decide) ?_
    exact fr_iret hg (rty := .boolean) rfl dX5_isLost_13 (fun h => h)
noncomputable def zX9_found (σ : fr_St) (a1 : Int32) : Option (Int32 × fr_St) :=
  some ((-10) - a1, (fr_put σ 0 9 a1))
set_option maxRecDepth 100000 in
set_option maxHeartbeats 4000000 in
theorem mX9_found (a1 : Int32) : fr_MI2 yX9_found cX9_found 2 .int 0 0 fr_shX (fun w => [.ref (fr_ad w 0), .int a1]) (fun σ => zX9_found σ a1) := by
  refine fr_mkI2 (by decide) (fun w => Nat.le_of_ble_eq_true rfl) (fun g w σ hg => ?_)
  show fr_V g w 2 (zX9_found σ a1) _ 0 [(0, .ref (fr_ad w 0)), (1, .int a1)] [] σ
  unfold zX9_found
  refine fr_aload_n hg 0 rfl dX9_found_0 rfl ?_
  refine fr_iload_n hg 1 rfl dX9_found_1 rfl ?_
  refine fr_puti hg (q := 0) fp_X9_68 rfl rfl rfl rfl dX9_found_2 rfl ?_
  refine fr_bipush hg (v := (-10)) (by decide) dX9_found_5 rfl ?_
  refine fr_iload_n hg 1 rfl dX9_found_7 rfl ?_
  refine fr_isub hg dX9_found_8 rfl ?_
  exact fr_iret hg (rty := .int) rfl dX9_found_9 (fun h => h)
noncomputable def zX9_read_L51 (s1 : Nat) (k2 : Int32) (k4 : Int32) (v5 : Int32) (σ : fr_St) : Option ((Int32 × fr_St) ⊕ (Int32 × fr_St)) :=
  if k4 ≤ v5 then some (.inr (v5, σ)) else (fr_al 60 σ (34 + s1) v5).bind (fun x1 => if zX9_within x1 0 9 = 0 then some (.inr (v5, σ)) else (fr_al 60 σ (34 + s1) v5).bind (fun x2 => (zX8_put σ k2 v5 x2).bind (fun σ3 => some (.inl (v5 + 1, σ3)))))
noncomputable def zX9_read (σ : fr_St) (a1 : Int32) (a2 : Int32) : Option (Int32 × fr_St) :=
  if zX9_isSheet a1 = 0 then some ((-2), σ) else if zX9_isKind a2 = 0 then some ((-2), σ) else (fr_ar 4 a1).bind (fun s1 => if zX5_isLost σ s1 = 0 then (fr_loop (fun (b2 : Int32 × fr_St) => zX9_read_L51 s1 a2 (if 32 < σ (30 + s1) 2 then 32 else σ (30 + s1) 2) b2.1 b2.2) fr_fu (0, σ)).bind (fun (c3 : Int32 × fr_St) => some (c3.1, (fr_put c3.2 0 8 1))) else (zX9_found σ 1).bind (fun p8 => some (p8.1, p8.2)))
set_option maxRecDepth 100000 in
set_option maxHeartbeats 4000000 in
theorem mX9_read (a1 : Int32) (a2 : Int32) : fr_MI2 yX9_read cX9_read 6 .int 3 65 fr_shX (fun w => [.ref (fr_ad w 0), .int a1, .int a2]) (fun σ => zX9_read σ a1 a2) := by
  refine fr_mkI2 (by decide) (fun w => Nat.le_of_ble_eq_true rfl) (fun g w σ hg => ?_)
  show fr_V g w 6 (zX9_read σ a1 a2) _ 0 [(0, .ref (fr_ad w 0)), (1, .int a1), (2, .int a2)] [] σ
  unfold zX9_read
  refine fr_iload_n hg 1 rfl dX9_read_0 rfl ?_
  refine fr_ci0 hg (mX9_isSheet a1) (fr_crS hg mo_X9_132 rfl (by decide) (by decide) (Nat.le_of_ble_eq_true rfl) dX9_read_1 rfl) rfl ?_
  refine fr_if_eq hg (m := 14) dX9_read_4 (by decide) rfl ?_ ?_
  · refine fr_bipush hg (v := (-2)) (by decide) dX9_read_14 rfl ?_
    exact fr_iret hg (rty := .int) rfl dX9_read_16 (fun h => h)
  · refine fr_iload_n hg 2 rfl dX9_read_7 rfl ?_
    refine fr_ci0 hg (mX9_isKind a2) (fr_crS hg mo_X9_118 rfl (by decide) (by decide) (Nat.le_of_ble_eq_true rfl) dX9_read_8 rfl) rfl ?_
    refine fr_if_ne hg (m := 17) dX9_read_11 (by decide) rfl ?_ ?_
    · refine fr_aload_n hg 0 rfl dX9_read_17 rfl ?_
      refine fr_getr hg (q := 0) (q' := 29) fo_X9_60 rfl rfl dX9_read_18 rfl ?_
      refine fr_iload_n hg 1 rfl dX9_read_21 rfl ?_
      refine fr_aaload hg (q := 29) (base := 30) rfl sx_29 dX9_read_22 rfl (fun s1 hs1 => ?_)
      refine fr_astore_n hg (ls' := [(0, .ref (fr_ad w 0)), (1, .int a1), (2, .int a2), (3, .ref (fr_ad w (30 + s1)))]) dX9_read_23 rfl (by decide) rfl rfl ?_
      refine fr_aload_n hg 3 rfl dX9_read_24 rfl ?_
      refine fr_ci0 hg (mX5_isLost s1 hs1) (fr_crV hg (q := (30 + s1)) mo_X9_135 (sx_30 hs1) ⟨_, _, rfl⟩ rfl (by decide) (by decide) (Nat.le_of_ble_eq_true rfl) dX9_read_25 rfl) rfl ?_
      refine fr_if_eq hg (m := 37) dX9_read_28 (by decide) rfl ?_ ?_
      · refine fr_aload_n hg 3 rfl dX9_read_37 rfl ?_
        refine fr_geti hg (q := (30 + s1)) fo_X9_142 (sx_30 hs1) rfl dX9_read_38 rfl ?_
        refine fr_bipush hg (v := 32) (by decide) dX9_read_41 rfl ?_
        refine fr_min hg mo_X9_143 (by decide) (Nat.le_of_ble_eq_true rfl) dX9_read_43 rfl ?_
        refine fr_istore hg (ls' := [(0, .ref (fr_ad w 0)), (1, .int a1), (2, .int a2), (3, .ref (fr_ad w (30 + s1))), (4, .int (if 32 < σ (30 + s1) 2 then 32 else σ (30 + s1) 2))]) dX9_read_46 (by decide) rfl rfl ?_
        refine fr_iconst hg (v := 0) (by decide) dX9_read_48 rfl ?_
        refine fr_istore hg (ls' := [(0, .ref (fr_ad w 0)), (1, .int a1), (2, .int a2), (3, .ref (fr_ad w (30 + s1))), (4, .int (if 32 < σ (30 + s1) 2 then 32 else σ (30 + s1) 2)), (5, .int 0)]) dX9_read_49 (by decide) rfl rfl ?_
        refine fr_lp (fun (b2 : Int32 × fr_St) => [(0, .ref (fr_ad w 0)), (2, .int a2), (3, .ref (fr_ad w (30 + s1))), (4, .int (if 32 < σ (30 + s1) 2 then 32 else σ (30 + s1) 2)), (5, .int b2.1)]) (fun b2 => b2.2) 97 (fun (c3 : Int32 × fr_St) => [(0, .ref (fr_ad w 0)), (5, .int c3.1)]) (fun c3 => c3.2) [0, 2, 3, 4, 5] rfl rfl (fun b2 => ?_) (fun c3 => ?_)
        · show fr_V g w _ (zX9_read_L51 s1 a2 (if 32 < σ (30 + s1) 2 then 32 else σ (30 + s1) 2) b2.1 b2.2) _ _ _ _ _
          unfold zX9_read_L51
          refine fr_iload hg 4 rfl dX9_read_51 rfl ?_
          refine fr_iload hg 3 rfl dX9_read_53 rfl ?_
          refine fr_icmp_ge hg (m := 97) dX9_read_55 (by decide) rfl ?_ ?_
          · exact fr_leaf [0, 4] rfl (fun h => h)
          · refine fr_aload_n hg 2 rfl dX9_read_58 rfl ?_
            refine fr_getr hg (q := (30 + s1)) (q' := (34 + s1)) fo_X9_148 (sx_30 hs1) rfl dX9_read_59 rfl ?_
            refine fr_iload hg 4 rfl dX9_read_62 rfl ?_
            refine fr_iaload hg (q := (34 + s1)) (sx_34 hs1) dX9_read_64 rfl (fun x4 => ?_)
            refine fr_iconst hg (v := 0) (by decide) dX9_read_65 rfl ?_
            refine fr_bipush hg (v := 9) (by decide) dX9_read_66 rfl ?_
            refine fr_ci0 hg (mX9_within x4 0 9) (fr_crS hg mo_X9_77 rfl (by decide) (by decide) (Nat.le_of_ble_eq_true rfl) dX9_read_68 rfl) rfl ?_
            refine fr_if_eq hg (m := 97) dX9_read_71 (by decide) rfl ?_ ?_
            · exact fr_leaf [0, 4] rfl (fun h => h)
            · refine fr_aload_n hg 0 rfl dX9_read_74 rfl ?_
              refine fr_getr hg (q := 0) (q' := 12) fo_X9_33 rfl rfl dX9_read_75 rfl ?_
              refine fr_iload_n hg 1 rfl dX9_read_78 rfl ?_
              refine fr_iload hg 4 rfl dX9_read_79 rfl ?_
              refine fr_aload_n hg 2 rfl dX9_read_81 rfl ?_
              refine fr_getr hg (q := (30 + s1)) (q' := (34 + s1)) fo_X9_148 (sx_30 hs1) rfl dX9_read_82 rfl ?_
              refine fr_iload hg 4 rfl dX9_read_85 rfl ?_
              refine fr_iaload hg (q := (34 + s1)) (sx_34 hs1) dX9_read_87 rfl (fun x5 => ?_)
              refine fr_cv2 hg (mX8_put a2 b2.1 x5) (fr_crV hg (q := 12) mo_X9_128 rfl ⟨_, _, rfl⟩ rfl (by decide) (by decide) (Nat.le_of_ble_eq_true rfl) dX9_read_88 rfl) rfl (fun σ6 => ?_)
              refine fr_iinc hg 4 (v := b2.1 + 1) (ls' := [(0, .ref (fr_ad w 0)), (2, .int a2), (3, .ref (fr_ad w (30 + s1))), (4, .int (if 32 < σ (30 + s1) 2 then 32 else σ (30 + s1) 2)), (5, .int (b2.1 + 1))]) dX9_read_91 rfl rfl (by decide) rfl rfl ?_
              refine fr_goto hg (n := 51) dX9_read_94 (by decide) ?_
              exact fr_leaf [0, 1, 2, 3, 4] rfl (fun h => h)
        refine fr_aload_n hg 0 rfl dX9_read_97 rfl ?_
        refine fr_iconst hg (v := 1) (by decide) dX9_read_98 rfl ?_
        refine fr_puti hg (q := 0) fp_X9_64 rfl rfl rfl rfl dX9_read_99 rfl ?_
        refine fr_iload hg 1 rfl dX9_read_102 rfl ?_
        exact fr_iret hg (rty := .int) rfl dX9_read_104 (fun h => h)
      · refine fr_aload_n hg 0 rfl dX9_read_31 rfl ?_
        refine fr_iconst hg (v := 1) (by decide) dX9_read_32 rfl ?_
        refine fr_ci2 hg (mX9_found 1) (fr_crV hg (q := 0) mo_X9_138 rfl ⟨_, _, rfl⟩ rfl (by decide) (by decide) (Nat.le_of_ble_eq_true rfl) dX9_read_33 rfl) rfl (fun p8 => ?_)
        exact fr_iret hg (rty := .int) rfl dX9_read_36 (fun h => h)
    · refine fr_bipush hg (v := (-2)) (by decide) dX9_read_14 rfl ?_
      exact fr_iret hg (rty := .int) rfl dX9_read_16 (fun h => h)
noncomputable def zX7_append (σ : fr_St) (a1 : Int32) (a2 : Int32) : Option (fr_St) :=
  if 40 ≤ σ 14 2 then some σ else (fr_as 40 σ 15 (σ 14 2) a1).bind (fun σ1 => (fr_as 40 σ1 16 (σ1 14 2) a2).bind (fun σ2 => some (fr_put σ2 14 2 ((σ2 14 2) + 1))))
set_option maxRecDepth 100000 in
set_option maxHeartbeats 4000000 in
theorem mX7_append (a1 : Int32) (a2 : Int32) : fr_MV2 yX7_append cX7_append 3 0 0 fr_shX (fun w => [.ref (fr_ad w 14), .int a1, .int a2]) (fun σ => zX7_append σ a1 a2) := by
  refine fr_mkV2 (by decide) (fun w => Nat.le_of_ble_eq_true rfl) (fun g w σ hg => ?_)
  show fr_V g w 3 (zX7_append σ a1 a2) _ 0 [(0, .ref (fr_ad w 14)), (1, .int a1), (2, .int a2)] [] σ
  unfold zX7_append
  refine fr_aload_n hg 0 rfl dX7_append_0 rfl ?_
  refine fr_geti hg (q := 14) fo_X7_18 rfl rfl dX7_append_1 rfl ?_
  refine fr_bipush hg (v := 40) (by decide) dX7_append_4 rfl ?_
  refine fr_icmp_ge hg (m := 39) dX7_append_6 (by decide) rfl ?_ ?_
  · exact fr_vret hg dX7_append_39 (fun h => h)
  · refine fr_aload_n hg 0 rfl dX7_append_9 rfl ?_
    refine fr_getr hg (q := 14) (q' := 15) fo_X7_9 rfl rfl dX7_append_10 rfl ?_
    refine fr_aload_n hg 0 rfl dX7_append_13 rfl ?_
    refine fr_geti hg (q := 14) fo_X7_18 rfl rfl dX7_append_14 rfl ?_
    refine fr_iload_n hg 1 rfl dX7_append_17 rfl ?_
    refine fr_iastore hg (q := 15) rfl dX7_append_18 rfl (fun σ1 => ?_)
    refine fr_aload_n hg 0 rfl dX7_append_19 rfl ?_
    refine fr_getr hg (q := 14) (q' := 16) fo_X7_15 rfl rfl dX7_append_20 rfl ?_
    refine fr_aload_n hg 0 rfl dX7_append_23 rfl ?_
    refine fr_geti hg (q := 14) fo_X7_18 rfl rfl dX7_append_24 rfl ?_
    refine fr_iload_n hg 2 rfl dX7_append_27 rfl ?_
    refine fr_iastore hg (q := 16) rfl dX7_append_28 rfl (fun σ2 => ?_)
    refine fr_aload_n hg 0 rfl dX7_append_29 rfl ?_
    refine fr_dup hg rfl dX7_append_30 rfl ?_
    refine fr_geti hg (q := 14) fo_X7_18 rfl rfl dX7_append_31 rfl ?_
    refine fr_iconst hg (v := 1) (by decide) dX7_append_34 rfl ?_
    refine fr_iadd hg dX7_append_35 rfl ?_
    refine fr_puti hg (q := 14) fp_X7_18 rfl rfl rfl rfl dX7_append_36 rfl ?_
    exact fr_vret hg dX7_append_39 (fun h => h)
noncomputable def zX9_stroke (σ : fr_St) (a1 : Int32) (a2 : Int32) : Option (Int32 × fr_St) :=
  if zX9_isTool a1 = 0 then some ((-2), σ) else if zX9_isCell a2 = 0 then some ((-2), σ) else if σ 14 2 < 40 then (zX7_append σ a1 a2).bind (fun σ1 => some ((fr_put σ1 0 8 1) 14 2, (fr_put σ1 0 8 1))) else some ((-4), σ)
set_option maxRecDepth 100000 in
set_option maxHeartbeats 4000000 in
theorem mX9_stroke (a1 : Int32) (a2 : Int32) : fr_MI2 yX9_stroke cX9_stroke 3 .int 2 42 fr_shX (fun w => [.ref (fr_ad w 0), .int a1, .int a2]) (fun σ => zX9_stroke σ a1 a2) := by
  refine fr_mkI2 (by decide) (fun w => Nat.le_of_ble_eq_true rfl) (fun g w σ hg => ?_)
  show fr_V g w 3 (zX9_stroke σ a1 a2) _ 0 [(0, .ref (fr_ad w 0)), (1, .int a1), (2, .int a2)] [] σ
  unfold zX9_stroke
  refine fr_iload_n hg 1 rfl dX9_stroke_0 rfl ?_
  refine fr_ci0 hg (mX9_isTool a1) (fr_crS hg mo_X9_105 rfl (by decide) (by decide) (Nat.le_of_ble_eq_true rfl) dX9_stroke_1 rfl) rfl ?_
  refine fr_if_eq hg (m := 14) dX9_stroke_4 (by decide) rfl ?_ ?_
  · refine fr_bipush hg (v := (-2)) (by decide) dX9_stroke_14 rfl ?_
    exact fr_iret hg (rty := .int) rfl dX9_stroke_16 (fun h => h)
  · refine fr_iload_n hg 2 rfl dX9_stroke_7 rfl ?_
    refine fr_ci0 hg (mX9_isCell a2) (fr_crS hg mo_X9_121 rfl (by decide) (by decide) (Nat.le_of_ble_eq_true rfl) dX9_stroke_8 rfl) rfl ?_
    refine fr_if_ne hg (m := 17) dX9_stroke_11 (by decide) rfl ?_ ?_
    · refine fr_aload_n hg 0 rfl dX9_stroke_17 rfl ?_
      refine fr_getr hg (q := 0) (q' := 14) fo_X9_40 rfl rfl dX9_stroke_18 rfl ?_
      refine fr_geti hg (q := 14) fo_X9_151 rfl rfl dX9_stroke_21 rfl ?_
      refine fr_bipush hg (v := 40) (by decide) dX9_stroke_24 rfl ?_
      refine fr_icmp_lt hg (m := 32) dX9_stroke_26 (by decide) rfl ?_ ?_
      · refine fr_aload_n hg 0 rfl dX9_stroke_32 rfl ?_
        refine fr_getr hg (q := 0) (q' := 14) fo_X9_40 rfl rfl dX9_stroke_33 rfl ?_
        refine fr_iload_n hg 1 rfl dX9_stroke_36 rfl ?_
        refine fr_iload_n hg 2 rfl dX9_stroke_37 rfl ?_
        refine fr_cv2 hg (mX7_append a1 a2) (fr_crV hg (q := 14) mo_X9_152 rfl ⟨_, _, rfl⟩ rfl (by decide) (by decide) (Nat.le_of_ble_eq_true rfl) dX9_stroke_38 rfl) rfl (fun σ1 => ?_)
        refine fr_aload_n hg 0 rfl dX9_stroke_41 rfl ?_
        refine fr_iconst hg (v := 1) (by decide) dX9_stroke_42 rfl ?_
        refine fr_puti hg (q := 0) fp_X9_64 rfl rfl rfl rfl dX9_stroke_43 rfl ?_
        refine fr_aload_n hg 0 rfl dX9_stroke_46 rfl ?_
        refine fr_getr hg (q := 0) (q' := 14) fo_X9_40 rfl rfl dX9_stroke_47 rfl ?_
        refine fr_geti hg (q := 14) fo_X9_151 rfl rfl dX9_stroke_50 rfl ?_
        exact fr_iret hg (rty := .int) rfl dX9_stroke_53 (fun h => h)
      · refine fr_bipush hg (v := (-4)) (by decide) dX9_stroke_29 rfl ?_
        exact fr_iret hg (rty := .int) rfl dX9_stroke_31 (fun h => h)
    · refine fr_bipush hg (v := (-2)) (by decide) dX9_stroke_14 rfl ?_
      exact fr_iret hg (rty := .int) rfl dX9_stroke_16 (fun h => h)
noncomputable def zX9_back (σ : fr_St)  : Option (Int32 × fr_St) :=
  if 0 < σ 14 2 then some ((fr_put (fr_put σ 14 2 ((σ 14 2) - 1)) 0 8 1) 14 2, (fr_put (fr_put σ 14 2 ((σ 14 2) - 1)) 0 8 1)) else some ((-3), σ)
set_option maxRecDepth 100000 in
set_option maxHeartbeats 4000000 in
theorem mX9_back  : fr_MI2 yX9_back cX9_back 1 .int 0 0 fr_shX (fun w => [.ref (fr_ad w 0)]) (fun σ => zX9_back σ) := by
  refine fr_mkI2 (by decide) (fun w => Nat.le_of_ble_eq_true rfl) (fun g w σ hg => ?_)
  show fr_V g w 1 (zX9_back σ) _ 0 [(0, .ref (fr_ad w 0))] [] σ
  unfold zX9_back
  refine fr_aload_n hg 0 rfl dX9_back_0 rfl ?_
  refine fr_getr hg (q := 0) (q' := 14) fo_X9_40 rfl rfl dX9_back_1 rfl ?_
  refine fr_geti hg (q := 14) fo_X9_151 rfl rfl dX9_back_4 rfl ?_
  refine fr_if_gt hg (m := 13) dX9_back_7 (by decide) rfl ?_ ?_
  · refine fr_aload_n hg 0 rfl dX9_back_13 rfl ?_
    refine fr_getr hg (q := 0) (q' := 14) fo_X9_40 rfl rfl dX9_back_14 rfl ?_
    refine fr_dup hg rfl dX9_back_17 rfl ?_
    refine fr_geti hg (q := 14) fo_X9_151 rfl rfl dX9_back_18 rfl ?_
    refine fr_iconst hg (v := 1) (by decide) dX9_back_21 rfl ?_
    refine fr_isub hg dX9_back_22 rfl ?_
    refine fr_puti hg (q := 14) fp_X9_151 rfl rfl rfl rfl dX9_back_23 rfl ?_
    refine fr_aload_n hg 0 rfl dX9_back_26 rfl ?_
    refine fr_iconst hg (v := 1) (by decide) dX9_back_27 rfl ?_
    refine fr_puti hg (q := 0) fp_X9_64 rfl rfl rfl rfl dX9_back_28 rfl ?_
    refine fr_aload_n hg 0 rfl dX9_back_31 rfl ?_
    refine fr_getr hg (q := 0) (q' := 14) fo_X9_40 rfl rfl dX9_back_32 rfl ?_
    refine fr_geti hg (q := 14) fo_X9_151 rfl rfl dX9_back_35 rfl ?_
    exact fr_iret hg (rty := .int) rfl dX9_back_38 (fun h => h)
  · refine fr_bipush hg (v := (-3)) (by decide) dX9_back_10 rfl ?_
    exact fr_iret hg (rty := .int) rfl dX9_back_12 (fun h => h)
noncomputable def zX1_scrape_L32 (v4 : Int32) (σ : fr_St) : Option ((Int32 × fr_St) ⊕ (fr_St)) :=
  if σ 14 2 ≤ v4 then some (.inr σ) else if 40 ≤ v4 then some (.inr σ) else (fr_al 40 σ 15 v4).bind (fun x1 => (fr_al 40 σ 16 v4).bind (fun x2 => (fr_as 40 σ 18 v4 0).bind (fun σ3 => if zX9_isTool x1 = 0 then some (.inl (v4 + 1, σ3)) else if zX9_isCell x2 = 0 then some (.inl (v4 + 1, σ3)) else (fr_al 32 σ3 19 x2).bind (fun x4 => if x4 ≤ 0 then some (.inl (v4 + 1, σ3)) else (fr_al 32 σ3 19 x2).bind (fun x5 => (fr_al 4 σ3 20 x1).bind (fun x6 => if x6 < x5 then some (.inl (v4 + 1, σ3)) else (fr_al 32 σ3 19 x2).bind (fun x7 => (fr_as 40 σ3 18 v4 x7).bind (fun σ8 => (fr_al 4 σ8 20 x1).bind (fun x9 => (fr_al 32 σ8 19 x2).bind (fun x10 => (fr_as 4 σ8 20 x1 (x9 - x10)).bind (fun σ11 => (fr_as 32 σ11 19 x2 0).bind (fun σ12 => some (.inl (v4 + 1, σ12))))))))))))))
noncomputable def zX1_scrape (σ : fr_St)  : Option (fr_St) :=
  (fr_cp 32 32 σ 6 0 19 0 32).bind (fun σ1 => (fr_cp 4 4 σ1 11 0 20 0 4).bind (fun σ2 => (fr_loop (fun (b3 : Int32 × fr_St) => zX1_scrape_L32 b3.1 b3.2) fr_fu (0, σ2)).bind (fun (c4 : fr_St) => some c4)))
set_option maxRecDepth 100000 in
set_option maxHeartbeats 4000000 in
theorem mX1_scrape  : fr_MV2 yX1_scrape cX1_scrape 7 2 42 fr_shX (fun w => [.ref (fr_ad w 17), .ref (fr_ad w 1), .ref (fr_ad w 9), .ref (fr_ad w 14)]) (fun σ => zX1_scrape σ) := by
  refine fr_mkV2 (by decide) (fun w => Nat.le_of_ble_eq_true rfl) (fun g w σ hg => ?_)
  show fr_V g w 7 (zX1_scrape σ) _ 0 [(0, .ref (fr_ad w 17)), (1, .ref (fr_ad w 1)), (2, .ref (fr_ad w 9)), (3, .ref (fr_ad w 14))] [] σ
  unfold zX1_scrape
  refine fr_aload_n hg 1 rfl dX1_scrape_0 rfl ?_
  refine fr_getr hg (q := 1) (q' := 6) fo_X1_37 rfl rfl dX1_scrape_1 rfl ?_
  refine fr_iconst hg (v := 0) (by decide) dX1_scrape_4 rfl ?_
  refine fr_aload_n hg 0 rfl dX1_scrape_5 rfl ?_
  refine fr_getr hg (q := 17) (q' := 19) fo_X1_15 rfl rfl dX1_scrape_6 rfl ?_
  refine fr_iconst hg (v := 0) (by decide) dX1_scrape_9 rfl ?_
  refine fr_bipush hg (v := 32) (by decide) dX1_scrape_10 rfl ?_
  refine fr_copy hg (q0 := 6) (q1 := 19) mo_X1_42 rfl rfl (by decide) (Nat.le_of_ble_eq_true rfl) dX1_scrape_12 rfl (fun σ1 => ?_)
  refine fr_aload_n hg 2 rfl dX1_scrape_15 rfl ?_
  refine fr_getr hg (q := 9) (q' := 11) fo_X1_48 rfl rfl dX1_scrape_16 rfl ?_
  refine fr_iconst hg (v := 0) (by decide) dX1_scrape_19 rfl ?_
  refine fr_aload_n hg 0 rfl dX1_scrape_20 rfl ?_
  refine fr_getr hg (q := 17) (q' := 20) fo_X1_18 rfl rfl dX1_scrape_21 rfl ?_
  refine fr_iconst hg (v := 0) (by decide) dX1_scrape_24 rfl ?_
  refine fr_iconst hg (v := 4) (by decide) dX1_scrape_25 rfl ?_
  refine fr_copy hg (q0 := 11) (q1 := 20) mo_X1_42 rfl rfl (by decide) (Nat.le_of_ble_eq_true rfl) dX1_scrape_26 rfl (fun σ2 => ?_)
  refine fr_iconst hg (v := 0) (by decide) dX1_scrape_29 rfl ?_
  refine fr_istore hg (ls' := [(0, .ref (fr_ad w 17)), (1, .ref (fr_ad w 1)), (2, .ref (fr_ad w 9)), (3, .ref (fr_ad w 14)), (4, .int 0)]) dX1_scrape_30 (by decide) rfl rfl ?_
  refine fr_lp (fun (b3 : Int32 × fr_St) => [(0, .ref (fr_ad w 17)), (3, .ref (fr_ad w 14)), (4, .int b3.1)]) (fun b3 => b3.2) 162 (fun (c4 : fr_St) => []) (fun c4 => c4) [0, 3, 4] rfl rfl (fun b3 => ?_) (fun c4 => ?_)
  · show fr_V g w _ (zX1_scrape_L32 b3.1 b3.2) _ _ _ _ _
    unfold zX1_scrape_L32
    refine fr_iload hg 2 rfl dX1_scrape_32 rfl ?_
    refine fr_aload_n hg 1 rfl dX1_scrape_34 rfl ?_
    refine fr_geti hg (q := 14) fo_X1_53 rfl rfl dX1_scrape_35 rfl ?_
    refine fr_icmp_ge hg (m := 162) dX1_scrape_38 (by decide) rfl ?_ ?_
    · exact fr_leaf [] rfl (fun h => h)
    · refine fr_iload hg 2 rfl dX1_scrape_41 rfl ?_
      refine fr_bipush hg (v := 40) (by decide) dX1_scrape_43 rfl ?_
      refine fr_icmp_ge hg (m := 162) dX1_scrape_45 (by decide) rfl ?_ ?_
      · exact fr_leaf [] rfl (fun h => h)
      · refine fr_aload_n hg 1 rfl dX1_scrape_48 rfl ?_
        refine fr_getr hg (q := 14) (q' := 15) fo_X1_58 rfl rfl dX1_scrape_49 rfl ?_
        refine fr_iload hg 2 rfl dX1_scrape_52 rfl ?_
        refine fr_iaload hg (q := 15) rfl dX1_scrape_54 rfl (fun x5 => ?_)
        refine fr_istore hg (ls' := [(0, .ref (fr_ad w 17)), (3, .ref (fr_ad w 14)), (4, .int b3.1), (5, .int x5)]) dX1_scrape_55 (by decide) rfl rfl ?_
        refine fr_aload_n hg 1 rfl dX1_scrape_57 rfl ?_
        refine fr_getr hg (q := 14) (q' := 16) fo_X1_61 rfl rfl dX1_scrape_58 rfl ?_
        refine fr_iload hg 2 rfl dX1_scrape_61 rfl ?_
        refine fr_iaload hg (q := 16) rfl dX1_scrape_63 rfl (fun x6 => ?_)
        refine fr_istore hg (ls' := [(0, .ref (fr_ad w 17)), (3, .ref (fr_ad w 14)), (4, .int b3.1), (5, .int x5), (6, .int x6)]) dX1_scrape_64 (by decide) rfl rfl ?_
        refine fr_aload_n hg 0 rfl dX1_scrape_66 rfl ?_
        refine fr_getr hg (q := 17) (q' := 18) fo_X1_9 rfl rfl dX1_scrape_67 rfl ?_
        refine fr_iload hg 2 rfl dX1_scrape_70 rfl ?_
        refine fr_iconst hg (v := 0) (by decide) dX1_scrape_72 rfl ?_
        refine fr_iastore hg (q := 18) rfl dX1_scrape_73 rfl (fun σ7 => ?_)
        refine fr_iload hg 3 rfl dX1_scrape_74 rfl ?_
        refine fr_ci0 hg (mX9_isTool x5) (fr_crN hg mo_X1_64 rfl (by decide) (by decide) (Nat.le_of_ble_eq_true rfl) dX1_scrape_76 rfl) rfl ?_
        refine fr_if_eq hg (m := 156) dX1_scrape_79 (by decide) rfl ?_ ?_
        · refine fr_iinc hg 2 (v := b3.1 + 1) (ls' := [(0, .ref (fr_ad w 17)), (3, .ref (fr_ad w 14)), (4, .int (b3.1 + 1)), (5, .int x5), (6, .int x6)]) dX1_scrape_156 rfl rfl (by decide) rfl rfl ?_
          refine fr_goto hg (n := 32) dX1_scrape_159 (by decide) ?_
          exact fr_leaf [0, 1, 2] rfl (fun h => h)
        · refine fr_iload hg 4 rfl dX1_scrape_82 rfl ?_
          refine fr_ci0 hg (mX9_isCell x6) (fr_crN hg mo_X1_68 rfl (by decide) (by decide) (Nat.le_of_ble_eq_true rfl) dX1_scrape_84 rfl) rfl ?_
          refine fr_if_eq hg (m := 156) dX1_scrape_87 (by decide) rfl ?_ ?_
          · refine fr_iinc hg 2 (v := b3.1 + 1) (ls' := [(0, .ref (fr_ad w 17)), (3, .ref (fr_ad w 14)), (4, .int (b3.1 + 1)), (5, .int x5), (6, .int x6)]) dX1_scrape_156 rfl rfl (by decide) rfl rfl ?_
            refine fr_goto hg (n := 32) dX1_scrape_159 (by decide) ?_
            exact fr_leaf [0, 1, 2] rfl (fun h => h)
          · refine fr_aload_n hg 0 rfl dX1_scrape_90 rfl ?_
            refine fr_getr hg (q := 17) (q' := 19) fo_X1_15 rfl rfl dX1_scrape_91 rfl ?_
            refine fr_iload hg 4 rfl dX1_scrape_94 rfl ?_
            refine fr_iaload hg (q := 19) rfl dX1_scrape_96 rfl (fun x8 => ?_)
            refine fr_if_le hg (m := 156) dX1_scrape_97 (by decide) rfl ?_ ?_
            · refine fr_iinc hg 2 (v := b3.1 + 1) (ls' := [(0, .ref (fr_ad w 17)), (3, .ref (fr_ad w 14)), (4, .int (b3.1 + 1)), (5, .int x5), (6, .int x6)]) dX1_scrape_156 rfl rfl (by decide) rfl rfl ?_
              refine fr_goto hg (n := 32) dX1_scrape_159 (by decide) ?_
              exact fr_leaf [0, 1, 2] rfl (fun h => h)
            · refine fr_aload_n hg 0 rfl dX1_scrape_100 rfl ?_
              refine fr_getr hg (q := 17) (q' := 19) fo_X1_15 rfl rfl dX1_scrape_101 rfl ?_
              refine fr_iload hg 4 rfl dX1_scrape_104 rfl ?_
              refine fr_iaload hg (q := 19) rfl dX1_scrape_106 rfl (fun x9 => ?_)
              refine fr_aload_n hg 0 rfl dX1_scrape_107 rfl ?_
              refine fr_getr hg (q := 17) (q' := 20) fo_X1_18 rfl rfl dX1_scrape_108 rfl ?_
              refine fr_iload hg 3 rfl dX1_scrape_111 rfl ?_
              refine fr_iaload hg (q := 20) rfl dX1_scrape_113 rfl (fun x10 => ?_)
              refine fr_icmp_gt hg (m := 156) dX1_scrape_114 (by decide) rfl ?_ ?_
              · refine fr_iinc hg 2 (v := b3.1 + 1) (ls' := [(0, .ref (fr_ad w 17)), (3, .ref (fr_ad w 14)), (4, .int (b3.1 + 1)), (5, .int x5), (6, .int x6)]) dX1_scrape_156 rfl rfl (by decide) rfl rfl ?_
                refine fr_goto hg (n := 32) dX1_scrape_159 (by decide) ?_
                exact fr_leaf [0, 1, 2] rfl (fun h => h)
              · refine fr_aload_n hg 0 rfl dX1_scrape_117 rfl ?_
                refine fr_getr hg (q := 17) (q' := 18) fo_X1_9 rfl rfl dX1_scrape_118 rfl ?_
                refine fr_iload hg 2 rfl dX1_scrape_121 rfl ?_
                refine fr_aload_n hg 0 rfl dX1_scrape_123 rfl ?_
                refine fr_getr hg (q := 17) (q' := 19) fo_X1_15 rfl rfl dX1_scrape_124 rfl ?_
                refine fr_iload hg 4 rfl dX1_scrape_127 rfl ?_
                refine fr_iaload hg (q := 19) rfl dX1_scrape_129 rfl (fun x11 => ?_)
                refine fr_iastore hg (q := 18) rfl dX1_scrape_130 rfl (fun σ12 => ?_)
                refine fr_aload_n hg 0 rfl dX1_scrape_131 rfl ?_
                refine fr_getr hg (q := 17) (q' := 20) fo_X1_18 rfl rfl dX1_scrape_132 rfl ?_
                refine fr_iload hg 3 rfl dX1_scrape_135 rfl ?_
                refine fr_dup2 hg rfl rfl dX1_scrape_137 rfl ?_
                refine fr_iaload hg (q := 20) rfl dX1_scrape_138 rfl (fun x13 => ?_)
                refine fr_aload_n hg 0 rfl dX1_scrape_139 rfl ?_
                refine fr_getr hg (q := 17) (q' := 19) fo_X1_15 rfl rfl dX1_scrape_140 rfl ?_
                refine fr_iload hg 4 rfl dX1_scrape_143 rfl ?_
                refine fr_iaload hg (q := 19) rfl dX1_scrape_145 rfl (fun x14 => ?_)
                refine fr_isub hg dX1_scrape_146 rfl ?_
                refine fr_iastore hg (q := 20) rfl dX1_scrape_147 rfl (fun σ15 => ?_)
                refine fr_aload_n hg 0 rfl dX1_scrape_148 rfl ?_
                refine fr_getr hg (q := 17) (q' := 19) fo_X1_15 rfl rfl dX1_scrape_149 rfl ?_
                refine fr_iload hg 4 rfl dX1_scrape_152 rfl ?_
                refine fr_iconst hg (v := 0) (by decide) dX1_scrape_154 rfl ?_
                refine fr_iastore hg (q := 19) rfl dX1_scrape_155 rfl (fun σ16 => ?_)
                refine fr_iinc hg 2 (v := b3.1 + 1) (ls' := [(0, .ref (fr_ad w 17)), (3, .ref (fr_ad w 14)), (4, .int (b3.1 + 1)), (5, .int x5), (6, .int x6)]) dX1_scrape_156 rfl rfl (by decide) rfl rfl ?_
                refine fr_goto hg (n := 32) dX1_scrape_159 (by decide) ?_
                exact fr_leaf [0, 1, 2] rfl (fun h => h)
  exact fr_vret hg dX1_scrape_162 (fun h => h)
noncomputable def zX1_weigh_L31 (k3 : Int32) (v4 : Int32) (σ : fr_St) : Option ((Int32 × fr_St) ⊕ (fr_St)) :=
  if 5 ≤ v4 then some (.inr σ) else (fr_al 32 σ 21 k3).bind (fun x1 => (fr_al 5 σ 8 v4).bind (fun x2 => (fr_al 160 σ 13 ((v4 * 32) + k3)).bind (fun x3 => (fr_as 32 σ 21 k3 (x1 + (x2 * x3))).bind (fun σ4 => some (.inl (v4 + 1, σ4))))))
noncomputable def zX1_weigh_L15 (v3 : Int32) (σ : fr_St) : Option ((Int32 × fr_St) ⊕ (fr_St)) :=
  if 32 ≤ v3 then some (.inr σ) else (fr_as 32 σ 21 v3 0).bind (fun σ1 => (fr_loop (fun (b2 : Int32 × fr_St) => zX1_weigh_L31 v3 b2.1 b2.2) fr_fu (0, σ1)).bind (fun (c3 : fr_St) => (fr_al 32 c3 19 v3).bind (fun x8 => if zX9_within x8 0 9 = 0 then some (.inl (v3 + 1, c3)) else (fr_al 32 c3 19 v3).bind (fun x9 => (fr_al 10 c3 23 x9).bind (fun x10 => (fr_as 10 c3 23 x9 (x10 + 1)).bind (fun σ11 => (fr_al 32 σ11 19 v3).bind (fun x12 => some (.inl (v3 + 1, (fr_put σ11 17 7 ((σ11 17 7) + x12)))))))))))
noncomputable def zX1_weigh (σ : fr_St)  : Option (fr_St) :=
  (zJ7_fill_53178 σ 23 10 0).bind (fun σ1 => (fr_loop (fun (b2 : Int32 × fr_St) => zX1_weigh_L15 b2.1 b2.2) fr_fu (0, (fr_put σ1 17 7 0))).bind (fun (c3 : fr_St) => some c3))
set_option maxRecDepth 100000 in
set_option maxHeartbeats 4000000 in
theorem mX1_weigh  : fr_MV2 yX1_weigh cX1_weigh 5 1 23 fr_shX (fun w => [.ref (fr_ad w 17), .ref (fr_ad w 7), .ref (fr_ad w 12)]) (fun σ => zX1_weigh σ) := by
  refine fr_mkV2 (by decide) (fun w => Nat.le_of_ble_eq_true rfl) (fun g w σ hg => ?_)
  show fr_V g w 5 (zX1_weigh σ) _ 0 [(0, .ref (fr_ad w 17)), (1, .ref (fr_ad w 7)), (2, .ref (fr_ad w 12))] [] σ
  unfold zX1_weigh
  refine fr_aload_n hg 0 rfl dX1_weigh_0 rfl ?_
  refine fr_getr hg (q := 17) (q' := 23) fo_X1_27 rfl rfl dX1_weigh_1 rfl ?_
  refine fr_iconst hg (v := 0) (by decide) dX1_weigh_4 rfl ?_
  refine fr_cv2 hg (mJ7_fill_53178 (S := fr_shX) 23 10 rfl 0) (fr_crS hg mo_X1_71 rfl (by decide) (by decide) (Nat.le_of_ble_eq_true rfl) dX1_weigh_5 rfl) rfl (fun σ1 => ?_)
  refine fr_aload_n hg 0 rfl dX1_weigh_8 rfl ?_
  refine fr_iconst hg (v := 0) (by decide) dX1_weigh_9 rfl ?_
  refine fr_puti hg (q := 17) fp_X1_34 rfl rfl rfl rfl dX1_weigh_10 rfl ?_
  refine fr_iconst hg (v := 0) (by decide) dX1_weigh_13 rfl ?_
  refine fr_istore_n hg (ls' := [(0, .ref (fr_ad w 17)), (1, .ref (fr_ad w 7)), (2, .ref (fr_ad w 12)), (3, .int 0)]) dX1_weigh_14 rfl (by decide) rfl rfl ?_
  refine fr_lp (fun (b2 : Int32 × fr_St) => [(0, .ref (fr_ad w 17)), (1, .ref (fr_ad w 7)), (2, .ref (fr_ad w 12)), (3, .int b2.1)]) (fun b2 => b2.2) 123 (fun (c3 : fr_St) => []) (fun c3 => c3) [0, 1, 2, 3] rfl rfl (fun b2 => ?_) (fun c3 => ?_)
  · show fr_V g w _ (zX1_weigh_L15 b2.1 b2.2) _ _ _ _ _
    unfold zX1_weigh_L15
    refine fr_iload_n hg 3 rfl dX1_weigh_15 rfl ?_
    refine fr_bipush hg (v := 32) (by decide) dX1_weigh_16 rfl ?_
    refine fr_icmp_ge hg (m := 123) dX1_weigh_18 (by decide) rfl ?_ ?_
    · exact fr_leaf [] rfl (fun h => h)
    · refine fr_aload_n hg 0 rfl dX1_weigh_21 rfl ?_
      refine fr_getr hg (q := 17) (q' := 21) fo_X1_21 rfl rfl dX1_weigh_22 rfl ?_
      refine fr_iload_n hg 3 rfl dX1_weigh_25 rfl ?_
      refine fr_iconst hg (v := 0) (by decide) dX1_weigh_26 rfl ?_
      refine fr_iastore hg (q := 21) rfl dX1_weigh_27 rfl (fun σ4 => ?_)
      refine fr_iconst hg (v := 0) (by decide) dX1_weigh_28 rfl ?_
      refine fr_istore hg (ls' := [(0, .ref (fr_ad w 17)), (1, .ref (fr_ad w 7)), (2, .ref (fr_ad w 12)), (3, .int b2.1), (4, .int 0)]) dX1_weigh_29 (by decide) rfl rfl ?_
      refine fr_lp (fun (b5 : Int32 × fr_St) => [(0, .ref (fr_ad w 17)), (1, .ref (fr_ad w 7)), (2, .ref (fr_ad w 12)), (3, .int b2.1), (4, .int b5.1)]) (fun b5 => b5.2) 72 (fun (c6 : fr_St) => [(0, .ref (fr_ad w 17)), (1, .ref (fr_ad w 7)), (2, .ref (fr_ad w 12)), (3, .int b2.1)]) (fun c6 => c6) [0, 1, 2, 3, 4] rfl rfl (fun b5 => ?_) (fun c6 => ?_)
      · show fr_V g w _ (zX1_weigh_L31 b2.1 b5.1 b5.2) _ _ _ _ _
        unfold zX1_weigh_L31
        refine fr_iload hg 4 rfl dX1_weigh_31 rfl ?_
        refine fr_iconst hg (v := 5) (by decide) dX1_weigh_33 rfl ?_
        refine fr_icmp_ge hg (m := 72) dX1_weigh_34 (by decide) rfl ?_ ?_
        · exact fr_leaf [0, 1, 2, 3] rfl (fun h => h)
        · refine fr_aload_n hg 0 rfl dX1_weigh_37 rfl ?_
          refine fr_getr hg (q := 17) (q' := 21) fo_X1_21 rfl rfl dX1_weigh_38 rfl ?_
          refine fr_iload_n hg 3 rfl dX1_weigh_41 rfl ?_
          refine fr_dup2 hg rfl rfl dX1_weigh_42 rfl ?_
          refine fr_iaload hg (q := 21) rfl dX1_weigh_43 rfl (fun x7 => ?_)
          refine fr_aload_n hg 1 rfl dX1_weigh_44 rfl ?_
          refine fr_getr hg (q := 7) (q' := 8) fo_X1_77 rfl rfl dX1_weigh_45 rfl ?_
          refine fr_iload hg 4 rfl dX1_weigh_48 rfl ?_
          refine fr_iaload hg (q := 8) rfl dX1_weigh_50 rfl (fun x8 => ?_)
          refine fr_aload_n hg 2 rfl dX1_weigh_51 rfl ?_
          refine fr_getr hg (q := 12) (q' := 13) fo_X1_82 rfl rfl dX1_weigh_52 rfl ?_
          refine fr_iload hg 4 rfl dX1_weigh_55 rfl ?_
          refine fr_bipush hg (v := 32) (by decide) dX1_weigh_57 rfl ?_
          refine fr_imul hg dX1_weigh_59 rfl ?_
          refine fr_iload_n hg 3 rfl dX1_weigh_60 rfl ?_
          refine fr_iadd hg dX1_weigh_61 rfl ?_
          refine fr_iaload hg (q := 13) rfl dX1_weigh_62 rfl (fun x9 => ?_)
          refine fr_imul hg dX1_weigh_63 rfl ?_
          refine fr_iadd hg dX1_weigh_64 rfl ?_
          refine fr_iastore hg (q := 21) rfl dX1_weigh_65 rfl (fun σ10 => ?_)
          refine fr_iinc hg 4 (v := b5.1 + 1) (ls' := [(0, .ref (fr_ad w 17)), (1, .ref (fr_ad w 7)), (2, .ref (fr_ad w 12)), (3, .int b2.1), (4, .int (b5.1 + 1))]) dX1_weigh_66 rfl rfl (by decide) rfl rfl ?_
          refine fr_goto hg (n := 31) dX1_weigh_69 (by decide) ?_
          exact fr_leaf [0, 1, 2, 3, 4] rfl (fun h => h)
      refine fr_aload_n hg 0 rfl dX1_weigh_72 rfl ?_
      refine fr_getr hg (q := 17) (q' := 19) fo_X1_15 rfl rfl dX1_weigh_73 rfl ?_
      refine fr_iload_n hg 3 rfl dX1_weigh_76 rfl ?_
      refine fr_iaload hg (q := 19) rfl dX1_weigh_77 rfl (fun x11 => ?_)
      refine fr_iconst hg (v := 0) (by decide) dX1_weigh_78 rfl ?_
      refine fr_bipush hg (v := 9) (by decide) dX1_weigh_79 rfl ?_
      refine fr_ci0 hg (mX9_within x11 0 9) (fr_crN hg mo_X1_87 rfl (by decide) (by decide) (Nat.le_of_ble_eq_true rfl) dX1_weigh_81 rfl) rfl ?_
      refine fr_if_eq hg (m := 117) dX1_weigh_84 (by decide) rfl ?_ ?_
      · refine fr_iinc hg 3 (v := b2.1 + 1) (ls' := [(0, .ref (fr_ad w 17)), (1, .ref (fr_ad w 7)), (2, .ref (fr_ad w 12)), (3, .int (b2.1 + 1))]) dX1_weigh_117 rfl rfl (by decide) rfl rfl ?_
        refine fr_goto hg (n := 15) dX1_weigh_120 (by decide) ?_
        exact fr_leaf [0, 1, 2, 3] rfl (fun h => h)
      · refine fr_aload_n hg 0 rfl dX1_weigh_87 rfl ?_
        refine fr_getr hg (q := 17) (q' := 23) fo_X1_27 rfl rfl dX1_weigh_88 rfl ?_
        refine fr_aload_n hg 0 rfl dX1_weigh_91 rfl ?_
        refine fr_getr hg (q := 17) (q' := 19) fo_X1_15 rfl rfl dX1_weigh_92 rfl ?_
        refine fr_iload_n hg 3 rfl dX1_weigh_95 rfl ?_
        refine fr_iaload hg (q := 19) rfl dX1_weigh_96 rfl (fun x12 => ?_)
        refine fr_dup2 hg rfl rfl dX1_weigh_97 rfl ?_
        refine fr_iaload hg (q := 23) rfl dX1_weigh_98 rfl (fun x13 => ?_)
        refine fr_iconst hg (v := 1) (by decide) dX1_weigh_99 rfl ?_
        refine fr_iadd hg dX1_weigh_100 rfl ?_
        refine fr_iastore hg (q := 23) rfl dX1_weigh_101 rfl (fun σ14 => ?_)
        refine fr_aload_n hg 0 rfl dX1_weigh_102 rfl ?_
        refine fr_dup hg rfl dX1_weigh_103 rfl ?_
        refine fr_geti hg (q := 17) fo_X1_34 rfl rfl dX1_weigh_104 rfl ?_
        refine fr_aload_n hg 0 rfl dX1_weigh_107 rfl ?_
        refine fr_getr hg (q := 17) (q' := 19) fo_X1_15 rfl rfl dX1_weigh_108 rfl ?_
        refine fr_iload_n hg 3 rfl dX1_weigh_111 rfl ?_
        refine fr_iaload hg (q := 19) rfl dX1_weigh_112 rfl (fun x15 => ?_)
        refine fr_iadd hg dX1_weigh_113 rfl ?_
        refine fr_puti hg (q := 17) fp_X1_34 rfl rfl rfl rfl dX1_weigh_114 rfl ?_
        refine fr_iinc hg 3 (v := b2.1 + 1) (ls' := [(0, .ref (fr_ad w 17)), (1, .ref (fr_ad w 7)), (2, .ref (fr_ad w 12)), (3, .int (b2.1 + 1))]) dX1_weigh_117 rfl rfl (by decide) rfl rfl ?_
        refine fr_goto hg (n := 15) dX1_weigh_120 (by decide) ?_
        exact fr_leaf [0, 1, 2, 3] rfl (fun h => h)
  exact fr_vret hg dX1_weigh_123 (fun h => h)
noncomputable def zX1_isQuicker (σ : fr_St) (a1 : Int32) (a2 : Int32) : Option (Int32) :=
  (fr_al 32 σ 21 a1).bind (fun x1 => (fr_al 32 σ 19 a2).bind (fun x2 => (fr_al 32 σ 21 a2).bind (fun x3 => (fr_al 32 σ 19 a1).bind (fun x4 => if x1 * x2 ≤ x3 * x4 then some 0 else some 1))))
set_option maxRecDepth 100000 in
set_option maxHeartbeats 4000000 in
theorem mX1_isQuicker (a1 : Int32) (a2 : Int32) : fr_MI1 yX1_isQuicker cX1_isQuicker 3 .boolean 0 0 fr_shX (fun w => [.ref (fr_ad w 17), .int a1, .int a2]) (fun σ => zX1_isQuicker σ a1 a2) := by
  refine fr_mkI1 (by decide) (fun w => Nat.le_of_ble_eq_true rfl) (fun g w σ hg => ?_)
  show fr_V g w 3 (zX1_isQuicker σ a1 a2) _ 0 [(0, .ref (fr_ad w 17)), (1, .int a1), (2, .int a2)] [] σ
  unfold zX1_isQuicker
  refine fr_aload_n hg 0 rfl dX1_isQuicker_0 rfl ?_
  refine fr_getr hg (q := 17) (q' := 21) fo_X1_21 rfl rfl dX1_isQuicker_1 rfl ?_
  refine fr_iload_n hg 1 rfl dX1_isQuicker_4 rfl ?_
  refine fr_iaload hg (q := 21) rfl dX1_isQuicker_5 rfl (fun x1 => ?_)
  refine fr_aload_n hg 0 rfl dX1_isQuicker_6 rfl ?_
  refine fr_getr hg (q := 17) (q' := 19) fo_X1_15 rfl rfl dX1_isQuicker_7 rfl ?_
  refine fr_iload_n hg 2 rfl dX1_isQuicker_10 rfl ?_
  refine fr_iaload hg (q := 19) rfl dX1_isQuicker_11 rfl (fun x2 => ?_)
  refine fr_imul hg dX1_isQuicker_12 rfl ?_
  refine fr_aload_n hg 0 rfl dX1_isQuicker_13 rfl ?_
  refine fr_getr hg (q := 17) (q' := 21) fo_X1_21 rfl rfl dX1_isQuicker_14 rfl ?_
  refine fr_iload_n hg 2 rfl dX1_isQuicker_17 rfl ?_
  refine fr_iaload hg (q := 21) rfl dX1_isQuicker_18 rfl (fun x3 => ?_)
  refine fr_aload_n hg 0 rfl dX1_isQuicker_19 rfl ?_
  refine fr_getr hg (q := 17) (q' := 19) fo_X1_15 rfl rfl dX1_isQuicker_20 rfl ?_
  refine fr_iload_n hg 1 rfl dX1_isQuicker_23 rfl ?_
  refine fr_iaload hg (q := 19) rfl dX1_isQuicker_24 rfl (fun x4 => ?_)
  refine fr_imul hg dX1_isQuicker_25 rfl ?_
  refine fr_icmp_le hg (m := 33) dX1_isQuicker_26 (by decide) rfl ?_ ?_
  · refine fr_iconst hg (v := 0) (by decide) dX1_isQuicker_33 rfl ?_
    exact fr_iret hg (rty := .boolean) rfl dX1_isQuicker_34 (fun h => h)
  · refine fr_iconst hg (v := 1) (by decide) dX1_isQuicker_29 rfl ?_
    refine fr_goto hg (n := 34) dX1_isQuicker_30 (by decide) ?_
    exact fr_iret hg (rty := .boolean) rfl dX1_isQuicker_34 (fun h => h)
