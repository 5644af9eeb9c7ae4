def zX5_hasRun (σ : fr_St) (s : Nat) (a1 : Int32) (a2 : Int32) : Int32 :=
  if a1 < 0 then 0 else if zX9_within a2 0 (σ (30 + s) 2) = 0 then 0 else if (σ (30 + s) 2) - a2 < a1 then 0 else 1
theorem zbX5_hasRun (σ : fr_St) (s : Nat) (a1 : Int32) (a2 : Int32) : zX5_hasRun σ s a1 a2 = 0 ∨ zX5_hasRun σ s a1 a2 = 1 := by
  unfold zX5_hasRun
  first | exact Or.inl rfl | ((repeat' split) <;> first | exact Or.inl rfl | exact Or.inr rfl)
set_option maxRecDepth 100000 in
set_option maxHeartbeats 4000000 in
theorem mX5_hasRun (s : Nat) (hs : s < 4) (a1 : Int32) (a2 : Int32) : fr_MI0 yX5_hasRun cX5_hasRun 3 .boolean 1 22 fr_shX (fun w => [.ref (fr_ad w (30 + s)), .int a1, .int a2]) (fun σ => zX5_hasRun σ s a1 a2) := by
  refine fr_mkI0 (by decide) (fun w => Nat.le_of_ble_eq_true rfl) (fun g w σ hg => ?_)
  show fr_V g w 3 (some (zX5_hasRun σ s a1 a2)) _ 0 [(0, .ref (fr_ad w (30 + s))), (1, .int a1), (2, .int a2)] [] σ
  unfold zX5_hasRun
  refine fr_iload_n hg 1 rfl dX5_hasRun_0 rfl ?_
  refine fr_some_ite ?_
  refine fr_if_lt hg (m := 30) dX5_hasRun_1 (by decide) rfl ?_ ?_
  · refine fr_iconst hg (v := 0) (by decide) dX5_hasRun_30 rfl ?_
    exact fr_iret hg (rty := .boolean) rfl dX5_hasRun_31 (fun h => h)
  · refine fr_iload_n hg 2 rfl dX5_hasRun_4 rfl ?_
    refine fr_iconst hg (v := 0) (by decide) dX5_hasRun_5 rfl ?_
    refine fr_aload_n hg 0 rfl dX5_hasRun_6 rfl ?_
    refine fr_geti hg (q := (30 + s)) fo_X5_19 (sx_30 hs) rfl dX5_hasRun_7 rfl ?_
    refine fr_ci0 hg (mX9_within a2 0 (σ (30 + s) 2)) (fr_crN hg mo_X5_32 rfl (by decide) (by decide) (Nat.le_of_ble_eq_true rfl) dX5_hasRun_10 rfl) rfl ?_
    refine fr_some_ite ?_
    refine fr_if_eq hg (m := 30) dX5_hasRun_13 (by decide) rfl ?_ ?_
    · refine fr_iconst hg (v := 0) (by decide) dX5_hasRun_30 rfl ?_
      exact fr_iret hg (rty := .boolean) rfl dX5_hasRun_31 (fun h => h)
    · refine fr_iload_n hg 1 rfl dX5_hasRun_16 rfl ?_
      refine fr_aload_n hg 0 rfl dX5_hasRun_17 rfl ?_
      refine fr_geti hg (q := (30 + s)) fo_X5_19 (sx_30 hs) rfl dX5_hasRun_18 rfl ?_
      refine fr_iload_n hg 2 rfl dX5_hasRun_21 rfl ?_
      refine fr_isub hg dX5_hasRun_22 rfl ?_
      refine fr_some_ite ?_
      refine fr_icmp_gt hg (m := 30) dX5_hasRun_23 (by decide) rfl ?_ ?_
      · refine fr_iconst hg (v := 0) (by decide) dX5_hasRun_30 rfl ?_
        exact fr_iret hg (rty := .boolean) rfl dX5_hasRun_31 (fun h => h)
      · refine fr_iconst hg (v := 1) (by decide) dX5_hasRun_26 rfl ?_
        refine fr_goto hg (n := 31) dX5_hasRun_27 (by decide) ?_
        exact fr_iret hg (rty := .boolean) rfl dX5_hasRun_31 (fun h => h)
noncomputable def zX9_copy (σ : fr_St) (a1 : Int32) (a2 : Int32) (a3 : Int32) (a4 : Int32) (a5 : Int32) : Option (Int32 × fr_St) :=
  if zX9_isSheet a1 = 0 then some ((-2), σ) else if zX9_isSheet a3 = 0 then some ((-2), σ) else (fr_ar 4 a1).bind (fun s1 => (fr_ar 4 a3).bind (fun s2 => if zX5_isLost σ s1 = 0 then if zX5_isLost σ s2 = 0 then if σ (30 + s1) 1 = σ (30 + s2) 1 then if zX5_hasRun σ s1 a2 a5 = 0 then (zX9_found σ 2).bind (fun p6 => some (p6.1, p6.2)) else if zX5_hasRun σ s2 a4 a5 = 0 then (zX9_found σ 2).bind (fun p9 => some (p9.1, p9.2)) else (fr_cp 60 60 σ (34 + s1) a2 (34 + s2) a4 a5).bind (fun σ7 => some (1, σ7)) else (zX9_found σ 4).bind (fun p11 => some (p11.1, p11.2)) else (zX9_found σ 1).bind (fun p13 => some (p13.1, p13.2)) else (zX9_found σ 1).bind (fun p4 => some (p4.1, p4.2))))
set_option maxRecDepth 100000 in
set_option maxHeartbeats 4000000 in
theorem mX9_copy (a1 : Int32) (a2 : Int32) (a3 : Int32) (a4 : Int32) (a5 : Int32) : fr_MI2 yX9_copy cX9_copy 8 .int 2 44 fr_shX (fun w => [.ref (fr_ad w 0), .int a1, .int a2, .int a3, .int a4, .int a5]) (fun σ => zX9_copy σ a1 a2 a3 a4 a5) := by
  refine fr_mkI2 (by decide) (fun w => Nat.le_of_ble_eq_true rfl) (fun g w σ hg => ?_)
  show fr_V g w 8 (zX9_copy σ a1 a2 a3 a4 a5) _ 0 [(0, .ref (fr_ad w 0)), (1, .int a1), (2, .int a2), (3, .int a3), (4, .int a4), (5, .int a5)] [] σ
  unfold zX9_copy
  refine fr_iload_n hg 1 rfl dX9_copy_0 rfl ?_
  refine fr_ci0 hg (mX9_isSheet a1) (fr_crS hg mo_X9_132 rfl (by decide) (by decide) (Nat.le_of_ble_eq_true rfl) dX9_copy_1 rfl) rfl ?_
  refine fr_if_eq hg (m := 14) dX9_copy_4 (by decide) rfl ?_ ?_
  · refine fr_bipush hg (v := (-2)) (by decide) dX9_copy_14 rfl ?_
    exact fr_iret hg (rty := .int) rfl dX9_copy_16 (fun h => h)
  · refine fr_iload_n hg 3 rfl dX9_copy_7 rfl ?_
    refine fr_ci0 hg (mX9_isSheet a3) (fr_crS hg mo_X9_132 rfl (by decide) (by decide) (Nat.le_of_ble_eq_true rfl) dX9_copy_8 rfl) rfl ?_
    refine fr_if_ne hg (m := 17) dX9_copy_11 (by decide) rfl ?_ ?_
    · refine fr_aload_n hg 0 rfl dX9_copy_17 rfl ?_
      refine fr_getr hg (q := 0) (q' := 29) fo_X9_60 rfl rfl dX9_copy_18 rfl ?_
      refine fr_iload_n hg 1 rfl dX9_copy_21 rfl ?_
      refine fr_aaload hg (q := 29) (base := 30) rfl sx_29 dX9_copy_22 rfl (fun s1 hs1 => ?_)
      refine fr_astore hg (ls' := [(0, .ref (fr_ad w 0)), (1, .int a1), (2, .int a2), (3, .int a3), (4, .int a4), (5, .int a5), (6, .ref (fr_ad w (30 + s1)))]) dX9_copy_23 (by decide) rfl rfl ?_
      refine fr_aload_n hg 0 rfl dX9_copy_25 rfl ?_
      refine fr_getr hg (q := 0) (q' := 29) fo_X9_60 rfl rfl dX9_copy_26 rfl ?_
      refine fr_iload_n hg 3 rfl dX9_copy_29 rfl ?_
      refine fr_aaload hg (q := 29) (base := 30) rfl sx_29 dX9_copy_30 rfl (fun s2 hs2 => ?_)
      refine fr_astore hg (ls' := [(0, .ref (fr_ad w 0)), (1, .int a1), (2, .int a2), (3, .int a3), (4, .int a4), (5, .int a5), (6, .ref (fr_ad w (30 + s1))), (7, .ref (fr_ad w (30 + s2)))]) dX9_copy_31 (by decide) rfl rfl ?_
      refine fr_aload hg 6 rfl dX9_copy_33 rfl ?_
      refine fr_ci0 hg (mX5_isLost s1 hs1) (fr_crV hg (q := (30 + s1)) mo_X9_135 (sx_30 hs1) ⟨_, _, rfl⟩ rfl (by decide) (by decide) (Nat.le_of_ble_eq_true rfl) dX9_copy_35 rfl) rfl ?_
      refine fr_if_ne hg (m := 49) dX9_copy_38 (by decide) rfl ?_ ?_
      · refine fr_aload_n hg 0 rfl dX9_copy_49 rfl ?_
        refine fr_iconst hg (v := 1) (by decide) dX9_copy_50 rfl ?_
        refine fr_ci2 hg (mX9_found 1) (fr_crV hg (q := 0) mo_X9_138 rfl ⟨_, _, rfl⟩ rfl (by decide) (by decide) (Nat.le_of_ble_eq_true rfl) dX9_copy_51 rfl) rfl (fun p4 => ?_)
        exact fr_iret hg (rty := .int) rfl dX9_copy_54 (fun h => h)
      · refine fr_aload hg 7 rfl dX9_copy_41 rfl ?_
        refine fr_ci0 hg (mX5_isLost s2 hs2) (fr_crV hg (q := (30 + s2)) mo_X9_135 (sx_30 hs2) ⟨_, _, rfl⟩ rfl (by decide) (by decide) (Nat.le_of_ble_eq_true rfl) dX9_copy_43 rfl) rfl ?_
        refine fr_if_eq hg (m := 55) dX9_copy_46 (by decide) rfl ?_ ?_
        · refine fr_aload hg 6 rfl dX9_copy_55 rfl ?_
          refine fr_geti hg (q := (30 + s1)) fo_X9_261 (sx_30 hs1) rfl dX9_copy_57 rfl ?_
          refine fr_aload hg 7 rfl dX9_copy_60 rfl ?_
          refine fr_geti hg (q := (30 + s2)) fo_X9_261 (sx_30 hs2) rfl dX9_copy_62 rfl ?_
          refine fr_icmp_eq hg (m := 74) dX9_copy_65 (by decide) rfl ?_ ?_
          · refine fr_aload hg 6 rfl dX9_copy_74 rfl ?_
            refine fr_iload_n hg 2 rfl dX9_copy_76 rfl ?_
            refine fr_iload hg 5 rfl dX9_copy_77 rfl ?_
            refine fr_ci0 hg (mX5_hasRun s1 hs1 a2 a5) (fr_crV hg (q := (30 + s1)) mo_X9_270 (sx_30 hs1) ⟨_, _, rfl⟩ rfl (by decide) (by decide) (Nat.le_of_ble_eq_true rfl) dX9_copy_79 rfl) rfl ?_
            refine fr_if_eq hg (m := 97) dX9_copy_82 (by decide) rfl ?_ ?_
            · refine fr_aload_n hg 0 rfl dX9_copy_97 rfl ?_
              refine fr_iconst hg (v := 2) (by decide) dX9_copy_98 rfl ?_
              refine fr_ci2 hg (mX9_found 2) (fr_crV hg (q := 0) mo_X9_138 rfl ⟨_, _, rfl⟩ rfl (by decide) (by decide) (Nat.le_of_ble_eq_true rfl) dX9_copy_99 rfl) rfl (fun p6 => ?_)
              exact fr_iret hg (rty := .int) rfl dX9_copy_102 (fun h => h)
            · refine fr_aload hg 7 rfl dX9_copy_85 rfl ?_
              refine fr_iload hg 4 rfl dX9_copy_87 rfl ?_
              refine fr_iload hg 5 rfl dX9_copy_89 rfl ?_
              refine fr_ci0 hg (mX5_hasRun s2 hs2 a4 a5) (fr_crV hg (q := (30 + s2)) mo_X9_270 (sx_30 hs2) ⟨_, _, rfl⟩ rfl (by decide) (by decide) (Nat.le_of_ble_eq_true rfl) dX9_copy_91 rfl) rfl ?_
              refine fr_if_ne hg (m := 103) dX9_copy_94 (by decide) rfl ?_ ?_
              · refine fr_aload hg 6 rfl dX9_copy_103 rfl ?_
                refine fr_getr hg (q := (30 + s1)) (q' := (34 + s1)) fo_X9_148 (sx_30 hs1) rfl dX9_copy_105 rfl ?_
                refine fr_iload_n hg 2 rfl dX9_copy_108 rfl ?_
                refine fr_aload hg 7 rfl dX9_copy_109 rfl ?_
                refine fr_getr hg (q := (30 + s2)) (q' := (34 + s2)) fo_X9_148 (sx_30 hs2) rfl dX9_copy_111 rfl ?_
                refine fr_iload hg 4 rfl dX9_copy_114 rfl ?_
                refine fr_iload hg 5 rfl dX9_copy_116 rfl ?_
                refine fr_copy hg (q0 := (34 + s1)) (q1 := (34 + s2)) mo_X9_273 (sx_34 hs1) (sx_34 hs2) (by decide) (Nat.le_of_ble_eq_true rfl) dX9_copy_118 rfl (fun σ7 => ?_)
                refine fr_iconst hg (v := 1) (by decide) dX9_copy_121 rfl ?_
                exact fr_iret hg (rty := .int) rfl dX9_copy_122 (fun h => h)
              · refine fr_aload_n hg 0 rfl dX9_copy_97 rfl ?_
                refine fr_iconst hg (v := 2) (by decide) dX9_copy_98 rfl ?_
                refine fr_ci2 hg (mX9_found 2) (fr_crV hg (q := 0) mo_X9_138 rfl ⟨_, _, rfl⟩ rfl (by decide) (by decide) (Nat.le_of_ble_eq_true rfl) dX9_copy_99 rfl) rfl (fun p9 => ?_)
                exact fr_iret hg (rty := .int) rfl dX9_copy_102 (fun h => h)
          · refine fr_aload_n hg 0 rfl dX9_copy_68 rfl ?_
            refine fr_iconst hg (v := 4) (by decide) dX9_copy_69 rfl ?_
            refine fr_ci2 hg (mX9_found 4) (fr_crV hg (q := 0) mo_X9_138 rfl ⟨_, _, rfl⟩ rfl (by decide) (by decide) (Nat.le_of_ble_eq_true rfl) dX9_copy_70 rfl) rfl (fun p11 => ?_)
            exact fr_iret hg (rty := .int) rfl dX9_copy_73 (fun h => h)
        · refine fr_aload_n hg 0 rfl dX9_copy_49 rfl ?_
          refine fr_iconst hg (v := 1) (by decide) dX9_copy_50 rfl ?_
          refine fr_ci2 hg (mX9_found 1) (fr_crV hg (q := 0) mo_X9_138 rfl ⟨_, _, rfl⟩ rfl (by decide) (by decide) (Nat.le_of_ble_eq_true rfl) dX9_copy_51 rfl) rfl (fun p13 => ?_)
          exact fr_iret hg (rty := .int) rfl dX9_copy_54 (fun h => h)
    · refine fr_bipush hg (v := (-2)) (by decide) dX9_copy_14 rfl ?_
      exact fr_iret hg (rty := .int) rfl dX9_copy_16 (fun h => h)
noncomputable def zX9_write_L60 (s1 : Nat) (k5 : Int32) (v6 : Int32) (σ : fr_St) : Option ((Int32 × fr_St) ⊕ (fr_St)) :=
  if k5 ≤ v6 then some (.inr σ) else (fr_al 32 σ 22 v6).bind (fun x1 => (zX5_put σ s1 v6 x1).bind (fun σ2 => some (.inl (v6 + 1, σ2))))
noncomputable def zX9_write (σ : fr_St) (a1 : Int32) (a2 : Int32) : Option (Int32 × fr_St) :=
  if zX9_isTool a1 = 0 then some ((-2), σ) else if zX9_isSheet a2 = 0 then some ((-2), σ) else (fr_ar 4 a2).bind (fun s1 => if zX5_isLost σ s1 = 0 then (zX9_settled σ).bind (fun p3 => (fr_loop (fun (b4 : Int32 × fr_St) => zX9_write_L60 s1 (if p3.2 17 6 < p3.2 (30 + s1) 2 then p3.2 17 6 else p3.2 (30 + s1) 2) b4.1 b4.2) fr_fu (0, p3.2)).bind (fun (c5 : fr_St) => some ((if p3.2 17 6 < p3.2 (30 + s1) 2 then p3.2 17 6 else p3.2 (30 + s1) 2), c5))) else (zX9_found σ 1).bind (fun p9 => some (p9.1, p9.2)))
set_option maxRecDepth 100000 in
set_option maxHeartbeats 4000000 in
theorem mX9_write (a1 : Int32) (a2 : Int32) : fr_MI2 yX9_write cX9_write 7 .int 4 88 fr_shX (fun w => [.ref (fr_ad w 0), .int a1, .int a2]) (fun σ => zX9_write σ a1 a2) := by
  refine fr_mkI2 (by decide) (fun w => Nat.le_of_ble_eq_true rfl) (fun g w σ hg => ?_)
  show fr_V g w 7 (zX9_write σ a1 a2) _ 0 [(0, .ref (fr_ad w 0)), (1, .int a1), (2, .int a2)] [] σ
  unfold zX9_write
  refine fr_iload_n hg 1 rfl dX9_write_0 rfl ?_
  refine fr_ci0 hg (mX9_isTool a1) (fr_crS hg mo_X9_105 rfl (by decide) (by decide) (Nat.le_of_ble_eq_true rfl) dX9_write_1 rfl) rfl ?_
  refine fr_if_eq hg (m := 14) dX9_write_4 (by decide) rfl ?_ ?_
  · refine fr_bipush hg (v := (-2)) (by decide) dX9_write_14 rfl ?_
    exact fr_iret hg (rty := .int) rfl dX9_write_16 (fun h => h)
  · refine fr_iload_n hg 2 rfl dX9_write_7 rfl ?_
    refine fr_ci0 hg (mX9_isSheet a2) (fr_crS hg mo_X9_132 rfl (by decide) (by decide) (Nat.le_of_ble_eq_true rfl) dX9_write_8 rfl) rfl ?_
    refine fr_if_ne hg (m := 17) dX9_write_11 (by decide) rfl ?_ ?_
    · refine fr_aload_n hg 0 rfl dX9_write_17 rfl ?_
      refine fr_getr hg (q := 0) (q' := 29) fo_X9_60 rfl rfl dX9_write_18 rfl ?_
      refine fr_iload_n hg 2 rfl dX9_write_21 rfl ?_
      refine fr_aaload hg (q := 29) (base := 30) rfl sx_29 dX9_write_22 rfl (fun s1 hs1 => ?_)
      refine fr_astore_n hg (ls' := [(0, .ref (fr_ad w 0)), (1, .int a1), (2, .int a2), (3, .ref (fr_ad w (30 + s1)))]) dX9_write_23 rfl (by decide) rfl rfl ?_
      refine fr_aload_n hg 3 rfl dX9_write_24 rfl ?_
      refine fr_ci0 hg (mX5_isLost s1 hs1) (fr_crV hg (q := (30 + s1)) mo_X9_135 (sx_30 hs1) ⟨_, _, rfl⟩ rfl (by decide) (by decide) (Nat.le_of_ble_eq_true rfl) dX9_write_25 rfl) rfl ?_
      refine fr_if_eq hg (m := 37) dX9_write_28 (by decide) rfl ?_ ?_
      · refine fr_aload_n hg 0 rfl dX9_write_37 rfl ?_
        refine fr_cq2 hg mX9_settled (fr_crV hg (q := 0) mo_X9_155 rfl ⟨_, _, rfl⟩ rfl (by decide) (by decide) (Nat.le_of_ble_eq_true rfl) dX9_write_38 rfl) rfl (fun p3 hp3 => ?_)
        refine fr_astore hg (ls' := [(0, .ref (fr_ad w 0)), (1, .int a1), (2, .int a2), (3, .ref (fr_ad w (30 + s1))), (4, .ref (fr_ad w 17))]) dX9_write_41 (by decide) rfl rfl ?_
        refine fr_aload_n hg 3 rfl dX9_write_43 rfl ?_
        refine fr_geti hg (q := (30 + s1)) fo_X9_142 (sx_30 hs1) rfl dX9_write_44 rfl ?_
        refine fr_aload hg 4 rfl dX9_write_47 rfl ?_
        refine fr_geti hg (q := 17) fo_X9_199 rfl rfl dX9_write_49 rfl ?_
        refine fr_min hg mo_X9_143 (by decide) (Nat.le_of_ble_eq_true rfl) dX9_write_52 rfl ?_
        refine fr_istore hg (ls' := [(0, .ref (fr_ad w 0)), (1, .int a1), (2, .int a2), (3, .ref (fr_ad w (30 + s1))), (4, .ref (fr_ad w 17)), (5, .int (if p3.2 17 6 < p3.2 (30 + s1) 2 then p3.2 17 6 else p3.2 (30 + s1) 2))]) dX9_write_55 (by decide) rfl rfl ?_
        refine fr_iconst hg (v := 0) (by decide) dX9_write_57 rfl ?_
        refine fr_istore hg (ls' := [(0, .ref (fr_ad w 0)), (1, .int a1), (2, .int a2), (3, .ref (fr_ad w (30 + s1))), (4, .ref (fr_ad w 17)), (5, .int (if p3.2 17 6 < p3.2 (30 + s1) 2 then p3.2 17 6 else p3.2 (30 + s1) 2)), (6, .int 0)]) dX9_write_58 (by decide) rfl rfl ?_
        refine fr_lp (fun (b4 : Int32 × fr_St) => [(3, .ref (fr_ad w (30 + s1))), (4, .ref (fr_ad w 17)), (5, .int (if p3.2 17 6 < p3.2 (30 + s1) 2 then p3.2 17 6 else p3.2 (30 + s1) 2)), (6, .int b4.1)]) (fun b4 => b4.2) 87 (fun (c5 : fr_St) => [(5, .int (if p3.2 17 6 < p3.2 (30 + s1) 2 then p3.2 17 6 else p3.2 (30 + s1) 2))]) (fun c5 => c5) [3, 4, 5, 6] rfl rfl (fun b4 => ?_) (fun c5 => ?_)
        · show fr_V g w _ (zX9_write_L60 s1 (if p3.2 17 6 < p3.2 (30 + s1) 2 then p3.2 17 6 else p3.2 (30 + s1) 2) b4.1 b4.2) _ _ _ _ _
          unfold zX9_write_L60
          refine fr_iload hg 3 rfl dX9_write_60 rfl ?_
          refine fr_iload hg 2 rfl dX9_write_62 rfl ?_
          refine fr_icmp_ge hg (m := 87) dX9_write_64 (by decide) rfl ?_ ?_
          · exact fr_leaf [2] rfl (fun h => h)
          · refine fr_aload_n hg 0 rfl dX9_write_67 rfl ?_
            refine fr_iload hg 3 rfl dX9_write_68 rfl ?_
            refine fr_aload hg 1 rfl dX9_write_70 rfl ?_
            refine fr_getr hg (q := 17) (q' := 22) fo_X9_202 rfl rfl dX9_write_72 rfl ?_
            refine fr_iload hg 3 rfl dX9_write_75 rfl ?_
            refine fr_iaload hg (q := 22) rfl dX9_write_77 rfl (fun x6 => ?_)
            refine fr_cv2 hg (mX5_put s1 hs1 b4.1 x6) (fr_crV hg (q := (30 + s1)) mo_X9_267 (sx_30 hs1) ⟨_, _, rfl⟩ rfl (by decide) (by decide) (Nat.le_of_ble_eq_true rfl) dX9_write_78 rfl) rfl (fun σ7 => ?_)
            refine fr_iinc hg 3 (v := b4.1 + 1) (ls' := [(3, .ref (fr_ad w (30 + s1))), (4, .ref (fr_ad w 17)), (5, .int (if p3.2 17 6 < p3.2 (30 + s1) 2 then p3.2 17 6 else p3.2 (30 + s1) 2)), (6, .int (b4.1 + 1))]) dX9_write_81 rfl rfl (by decide) rfl rfl ?_
            refine fr_goto hg (n := 60) dX9_write_84 (by decide) ?_
            exact fr_leaf [0, 1, 2, 3] rfl (fun h => h)
        refine fr_iload hg 0 rfl dX9_write_87 rfl ?_
        exact fr_iret hg (rty := .int) rfl dX9_write_89 (fun h => h)
      · refine fr_aload_n hg 0 rfl dX9_write_31 rfl ?_
        refine fr_iconst hg (v := 1) (by decide) dX9_write_32 rfl ?_
        refine fr_ci2 hg (mX9_found 1) (fr_crV hg (q := 0) mo_X9_138 rfl ⟨_, _, rfl⟩ rfl (by decide) (by decide) (Nat.le_of_ble_eq_true rfl) dX9_write_33 rfl) rfl (fun p9 => ?_)
        exact fr_iret hg (rty := .int) rfl dX9_write_36 (fun h => h)
    · refine fr_bipush hg (v := (-2)) (by decide) dX9_write_14 rfl ?_
      exact fr_iret hg (rty := .int) rfl dX9_write_16 (fun h => h)
noncomputable def zX9_count (σ : fr_St) (a1 : Int32) : Option (Int32 × fr_St) :=
  if a1 = 0 then some (σ 1 3, σ) else if a1 = 1 then some (σ 7 3, σ) else if a1 = 2 then some (σ 2 1, σ) else if a1 = 3 then some (σ 3 1, σ) else if a1 = 4 then some (σ 14 2, σ) else if a1 = 5 then (zX9_settled σ).bind (fun p2 => (zX1_doneBehind p2.2 (p2.2 14 2)).bind (fun r3 => some (r3, p2.2))) else if a1 = 6 then some (σ 1 4, σ) else if a1 = 7 then some (σ 24 4, σ) else if a1 = 8 then some (σ 0 9, σ) else some ((-2), σ)
set_option maxRecDepth 100000 in
set_option maxHeartbeats 4000000 in
theorem mX9_count (a1 : Int32) : fr_MI2 yX9_count cX9_count 2 .int 4 88 fr_shX (fun w => [.ref (fr_ad w 0), .int a1]) (fun σ => zX9_count σ a1) := by
  refine fr_mkI2 (by decide) (fun w => Nat.le_of_ble_eq_true rfl) (fun g w σ hg => ?_)
  show fr_V g w 2 (zX9_count σ a1) _ 0 [(0, .ref (fr_ad w 0)), (1, .int a1)] [] σ
  unfold zX9_count
  refine fr_iload_n hg 1 rfl dX9_count_0 rfl ?_
  refine fr_case (fun h => ?_) (fun h0 => ?_)
  · refine fr_tbl hg (m := 52) h dX9_count_1 (by decide) (by decide) rfl (by decide) ?_
    refine fr_aload_n hg 0 rfl dX9_count_52 rfl ?_
    refine fr_getr hg (q := 0) (q' := 1) fo_X9_12 rfl rfl dX9_count_53 rfl ?_
    refine fr_geti hg (q := 1) fo_X9_279 rfl rfl dX9_count_56 rfl ?_
    exact fr_iret hg (rty := .int) rfl dX9_count_59 (fun h => h)
  refine fr_case (fun h => ?_) (fun h1 => ?_)
  · refine fr_tbl hg (m := 60) h dX9_count_1 (by decide) (by decide) rfl (by decide) ?_
    refine fr_aload_n hg 0 rfl dX9_count_60 rfl ?_
    refine fr_getr hg (q := 0) (q' := 7) fo_X9_19 rfl rfl dX9_count_61 rfl ?_
    refine fr_geti hg (q := 7) fo_X9_282 rfl rfl dX9_count_64 rfl ?_
    exact fr_iret hg (rty := .int) rfl dX9_count_67 (fun h => h)
  refine fr_case (fun h => ?_) (fun h2 => ?_)
  · refine fr_tbl hg (m := 68) h dX9_count_1 (by decide) (by decide) rfl (by decide) ?_
    refine fr_aload_n hg 0 rfl dX9_count_68 rfl ?_
    refine fr_getr hg (q := 0) (q' := 1) fo_X9_12 rfl rfl dX9_count_69 rfl ?_
    refine fr_getr hg (q := 1) (q' := 2) fo_X9_285 rfl rfl dX9_count_72 rfl ?_
    refine fr_geti hg (q := 2) fo_X9_98 rfl rfl dX9_count_75 rfl ?_
    exact fr_iret hg (rty := .int) rfl dX9_count_78 (fun h => h)
  refine fr_case (fun h => ?_) (fun h3 => ?_)
  · refine fr_tbl hg (m := 79) h dX9_count_1 (by decide) (by decide) rfl (by decide) ?_
    refine fr_aload_n hg 0 rfl dX9_count_79 rfl ?_
    refine fr_getr hg (q := 0) (q' := 7) fo_X9_19 rfl rfl dX9_count_80 rfl ?_
    refine fr_getr hg (q := 7) (q' := 3) fo_X9_289 rfl rfl dX9_count_83 rfl ?_
    refine fr_geti hg (q := 3) fo_X9_98 rfl rfl dX9_count_86 rfl ?_
    exact fr_iret hg (rty := .int) rfl dX9_count_89 (fun h => h)
  refine fr_case (fun h => ?_) (fun h4 => ?_)
  · refine fr_tbl hg (m := 90) h dX9_count_1 (by decide) (by decide) rfl (by decide) ?_
    refine fr_aload_n hg 0 rfl dX9_count_90 rfl ?_
    refine fr_getr hg (q := 0) (q' := 14) fo_X9_40 rfl rfl dX9_count_91 rfl ?_
    refine fr_geti hg (q := 14) fo_X9_151 rfl rfl dX9_count_94 rfl ?_
    exact fr_iret hg (rty := .int) rfl dX9_count_97 (fun h => h)
  refine fr_case (fun h => ?_) (fun h5 => ?_)
  · refine fr_tbl hg (m := 98) h dX9_count_1 (by decide) (by decide) rfl (by decide) ?_
    refine fr_aload_n hg 0 rfl dX9_count_98 rfl ?_
    refine fr_cq2 hg mX9_settled (fr_crV hg (q := 0) mo_X9_155 rfl ⟨_, _, rfl⟩ rfl (by decide) (by decide) (Nat.le_of_ble_eq_true rfl) dX9_count_99 rfl) rfl (fun p2 hp2 => ?_)
    refine fr_aload_n hg 0 rfl dX9_count_102 rfl ?_
    refine fr_getr hg (q := 0) (q' := 14) fo_X9_40 rfl rfl dX9_count_103 rfl ?_
    refine fr_geti hg (q := 14) fo_X9_151 rfl rfl dX9_count_106 rfl ?_
    refine fr_ci1 hg (mX1_doneBehind (p2.2 14 2)) (fr_crV hg (q := 17) mo_X9_180 rfl ⟨_, _, rfl⟩ rfl (by decide) (by decide) (Nat.le_of_ble_eq_true rfl) dX9_count_109 rfl) rfl (fun r3 => ?_)
    exact fr_iret hg (rty := .int) rfl dX9_count_112 (fun h => h)
  refine fr_case (fun h => ?_) (fun h6 => ?_)
  · refine fr_tbl hg (m := 113) h dX9_count_1 (by decide) (by decide) rfl (by decide) ?_
    refine fr_aload_n hg 0 rfl dX9_count_113 rfl ?_
    refine fr_getr hg (q := 0) (q' := 1) fo_X9_12 rfl rfl dX9_count_114 rfl ?_
    refine fr_geti hg (q := 1) fo_X9_290 rfl rfl dX9_count_117 rfl ?_
    exact fr_iret hg (rty := .int) rfl dX9_count_120 (fun h => h)
  refine fr_case (fun h => ?_) (fun h7 => ?_)
  · refine fr_tbl hg (m := 121) h dX9_count_1 (by decide) (by decide) rfl (by decide) ?_
    refine fr_aload_n hg 0 rfl dX9_count_121 rfl ?_
    refine fr_getr hg (q := 0) (q' := 24) fo_X9_54 rfl rfl dX9_count_122 rfl ?_
    refine fr_geti hg (q := 24) fo_X9_238 rfl rfl dX9_count_125 rfl ?_
    exact fr_iret hg (rty := .int) rfl dX9_count_128 (fun h => h)
  refine fr_case (fun h => ?_) (fun h8 => ?_)
  · refine fr_tbl hg (m := 129) h dX9_count_1 (by decide) (by decide) rfl (by decide) ?_
    refine fr_aload_n hg 0 rfl dX9_count_129 rfl ?_
    refine fr_geti hg (q := 0) fo_X9_68 rfl rfl dX9_count_130 rfl ?_
    exact fr_iret hg (rty := .int) rfl dX9_count_133 (fun h => h)
  have h0 := lv_neT (a := 0) h0 rfl
  have h1 := lv_neT (a := 1) h1 rfl
  have h2 := lv_neT (a := 2) h2 rfl
  have h3 := lv_neT (a := 3) h3 rfl
  have h4 := lv_neT (a := 4) h4 rfl
  have h5 := lv_neT (a := 5) h5 rfl
  have h6 := lv_neT (a := 6) h6 rfl
  have h7 := lv_neT (a := 7) h7 rfl
  have h8 := lv_neT (a := 8) h8 rfl
  refine fr_tbd hg (m := 134) dX9_count_1 (by omega) (by decide) ?_
  refine fr_bipush hg (v := (-2)) (by decide) dX9_count_134 rfl ?_
  exact fr_iret hg (rty := .int) rfl dX9_count_136 (fun h => h)
def zX9_mixed (a1 : Int64) (a2 : Int64) : Int64 :=
  (31 * a1) + a2
set_option maxRecDepth 100000 in
set_option maxHeartbeats 4000000 in
theorem mX9_mixed (a1 : Int64) (a2 : Int64) : fr_ML0 yX9_mixed cX9_mixed 4 0 0 fr_shX (fun w => [.long a1, .long a2]) (fun σ => zX9_mixed a1 a2) := by
  refine fr_mkL0 (by decide) (fun w => Nat.le_of_ble_eq_true rfl) (fun g w σ hg => ?_)
  show fr_V g w 4 (some (zX9_mixed a1 a2)) _ 0 [(0, .long a1), (2, .long a2)] [] σ
  unfold zX9_mixed
  refine fr_ldc2 hg cl_X9_349 dX9_mixed_0 rfl ?_
  refine fr_lload_n hg 0 rfl dX9_mixed_3 rfl ?_
  refine fr_lmul hg dX9_mixed_4 rfl ?_
  refine fr_lload_n hg 1 rfl dX9_mixed_5 rfl ?_
  refine fr_ladd hg dX9_mixed_6 rfl ?_
  exact fr_lret hg dX9_mixed_7 (fun h => h)
noncomputable def zX9_mixedWithTool_L28 (k3 : Int32) (v4 : Int64) (v6 : Int32) (σ : fr_St) : Option ((Int64 × Int32 × fr_St) ⊕ (Int64 × fr_St)) :=
  if 1 < v6 then some (.inr (v4, σ)) else (zX9_first σ k3 v6).bind (fun p2 => some (.inl (zX9_mixed v4 p2.1.toInt64, v6 + 1, p2.2)))
noncomputable def zX9_mixedWithTool (σ : fr_St) (a1 : Int64) (a2 : Int32) : Option (Int64 × fr_St) :=
  (zX9_left σ a2).bind (fun p2 => (zX9_all p2.2 a2).bind (fun p4 => (fr_loop (fun (b5 : Int64 × Int32 × fr_St) => zX9_mixedWithTool_L28 a2 b5.1 b5.2.1 b5.2.2) fr_fu (zX9_mixed (zX9_mixed a1 p2.1.toInt64) p4.1.toInt64, (-1), p4.2)).bind (fun (c6 : Int64 × fr_St) => (zX9_stop c6.2 a2 1 3 0).bind (fun p10 => (zX9_stop p10.2 a2 1 3 1).bind (fun p12 => (zX9_warm p12.2 20 a2 0).bind (fun p14 => (zX9_warm p14.2 20 a2 1).bind (fun p16 => (zX9_tonight p16.2 6 1 0 a2 0).bind (fun r17 => (zX9_tonight p16.2 6 1 0 a2 1).bind (fun r18 => some (zX9_mixed (zX9_mixed (zX9_mixed (zX9_mixed (zX9_mixed (zX9_mixed c6.1 p10.1.toInt64) p12.1.toInt64) p14.1.toInt64) p16.1.toInt64) r17) r18, p16.2))))))))))
set_option maxRecDepth 100000 in
set_option maxHeartbeats 4000000 in
theorem mX9_mixedWithTool (a1 : Int64) (a2 : Int32) : fr_ML2 yX9_mixedWithTool cX9_mixedWithTool 7 5 115 fr_shX (fun w => [.ref (fr_ad w 0), .long a1, .int a2]) (fun σ => zX9_mixedWithTool σ a1 a2) := by
  refine fr_mkL2 (by decide) (fun w => Nat.le_of_ble_eq_true rfl) (fun g w σ hg => ?_)
  show fr_V g w 7 (zX9_mixedWithTool σ a1 a2) _ 0 [(0, .ref (fr_ad w 0)), (1, .long a1), (3, .int a2)] [] σ
  unfold zX9_mixedWithTool
  refine fr_lload_n hg 1 rfl dX9_mixedWithTool_0 rfl ?_
  refine fr_aload_n hg 0 rfl dX9_mixedWithTool_1 rfl ?_
  refine fr_iload_n hg 2 rfl dX9_mixedWithTool_2 rfl ?_
  refine fr_ci2 hg (mX9_left a2) (fr_crV hg (q := 0) mo_X9_330 rfl ⟨_, _, rfl⟩ rfl (by decide) (by decide) (Nat.le_of_ble_eq_true rfl) dX9_mixedWithTool_3 rfl) rfl (fun p2 => ?_)
  refine fr_i2l hg dX9_mixedWithTool_6 rfl ?_
  refine fr_cl0 hg (mX9_mixed a1 p2.1.toInt64) (fr_crS hg mo_X9_296 rfl (by decide) (by decide) (Nat.le_of_ble_eq_true rfl) dX9_mixedWithTool_7 rfl) rfl ?_
  refine fr_lstore hg (ls' := [(0, .ref (fr_ad w 0)), (1, .long a1), (3, .int a2), (4, .long (zX9_mixed a1 p2.1.toInt64))]) dX9_mixedWithTool_10 (by decide) rfl rfl ?_
  refine fr_lload hg 3 rfl dX9_mixedWithTool_12 rfl ?_
  refine fr_aload_n hg 0 rfl dX9_mixedWithTool_14 rfl ?_
  refine fr_iload_n hg 2 rfl dX9_mixedWithTool_15 rfl ?_
  refine fr_ci2 hg (mX9_all a2) (fr_crV hg (q := 0) mo_X9_333 rfl ⟨_, _, rfl⟩ rfl (by decide) (by decide) (Nat.le_of_ble_eq_true rfl) dX9_mixedWithTool_16 rfl) rfl (fun p4 => ?_)
  refine fr_i2l hg dX9_mixedWithTool_19 rfl ?_
  refine fr_cl0 hg (mX9_mixed (zX9_mixed a1 p2.1.toInt64) p4.1.toInt64) (fr_crS hg mo_X9_296 rfl (by decide) (by decide) (Nat.le_of_ble_eq_true rfl) dX9_mixedWithTool_20 rfl) rfl ?_
  refine fr_lstore hg (ls' := [(0, .ref (fr_ad w 0)), (1, .long a1), (3, .int a2), (4, .long (zX9_mixed (zX9_mixed a1 p2.1.toInt64) p4.1.toInt64))]) dX9_mixedWithTool_23 (by decide) rfl rfl ?_
  refine fr_iconst hg (v := (-1)) (by decide) dX9_mixedWithTool_25 rfl ?_
  refine fr_istore hg (ls' := [(0, .ref (fr_ad w 0)), (1, .long a1), (3, .int a2), (4, .long (zX9_mixed (zX9_mixed a1 p2.1.toInt64) p4.1.toInt64)), (6, .int (-1))]) dX9_mixedWithTool_26 (by decide) rfl rfl ?_
  refine fr_lp (fun (b5 : Int64 × Int32 × fr_St) => [(0, .ref (fr_ad w 0)), (3, .int a2), (4, .long b5.1), (6, .int b5.2.1)]) (fun b5 => b5.2.2) 55 (fun (c6 : Int64 × fr_St) => [(0, .ref (fr_ad w 0)), (3, .int a2), (4, .long c6.1)]) (fun c6 => c6.2) [0, 2, 3, 4] rfl rfl (fun b5 => ?_) (fun c6 => ?_)
  · show fr_V g w _ (zX9_mixedWithTool_L28 a2 b5.1 b5.2.1 b5.2.2) _ _ _ _ _
    unfold zX9_mixedWithTool_L28
    refine fr_iload hg 3 rfl dX9_mixedWithTool_28 rfl ?_
    refine fr_iconst hg (v := 1) (by decide) dX9_mixedWithTool_30 rfl ?_
    refine fr_icmp_gt hg (m := 55) dX9_mixedWithTool_31 (by decide) rfl ?_ ?_
    · exact fr_leaf [0, 1, 2] rfl (fun h => h)
    · refine fr_lload hg 2 rfl dX9_mixedWithTool_34 rfl ?_
      refine fr_aload_n hg 0 rfl dX9_mixedWithTool_36 rfl ?_
      refine fr_iload_n hg 1 rfl dX9_mixedWithTool_37 rfl ?_
      refine fr_iload hg 3 rfl dX9_mixedWithTool_38 rfl ?_
      refine fr_ci2 hg (mX9_first a2 b5.2.1) (fr_crV hg (q := 0) mo_X9_336 rfl ⟨_, _, rfl⟩ rfl (by decide) (by decide) (Nat.le_of_ble_eq_true rfl) dX9_mixedWithTool_40 rfl) rfl (fun p8 => ?_)
      refine fr_i2l hg dX9_mixedWithTool_43 rfl ?_
      refine fr_cl0 hg (mX9_mixed b5.1 p8.1.toInt64) (fr_crS hg mo_X9_296 rfl (by decide) (by decide) (Nat.le_of_ble_eq_true rfl) dX9_mixedWithTool_44 rfl) rfl ?_
      refine fr_lstore hg (ls' := [(0, .ref (fr_ad w 0)), (3, .int a2), (4, .long (zX9_mixed b5.1 p8.1.toInt64)), (6, .int b5.2.1)]) dX9_mixedWithTool_47 (by decide) rfl rfl ?_
      refine fr_iinc hg 3 (v := b5.2.1 + 1) (ls' := [(0, .ref (fr_ad w 0)), (3, .int a2), (4, .long (zX9_mixed b5.1 p8.1.toInt64)), (6, .int (b5.2.1 + 1))]) dX9_mixedWithTool_49 rfl rfl (by decide) rfl rfl ?_
      refine fr_goto hg (n := 28) dX9_mixedWithTool_52 (by decide) ?_
      exact fr_leaf [0, 1, 2, 3] rfl (fun h => h)
  refine fr_lload hg 2 rfl dX9_mixedWithTool_55 rfl ?_
  refine fr_aload_n hg 0 rfl dX9_mixedWithTool_57 rfl ?_
  refine fr_iload_n hg 1 rfl dX9_mixedWithTool_58 rfl ?_
  refine fr_iconst hg (v := 1) (by decide) dX9_mixedWithTool_59 rfl ?_
  refine fr_iconst hg (v := 3) (by decide) dX9_mixedWithTool_60 rfl ?_
  refine fr_iconst hg (v := 0) (by decide) dX9_mixedWithTool_61 rfl ?_
  refine fr_ci2 hg (mX9_stop a2 1 3 0) (fr_crV hg (q := 0) mo_X9_339 rfl ⟨_, _, rfl⟩ rfl (by decide) (by decide) (Nat.le_of_ble_eq_true rfl) dX9_mixedWithTool_62 rfl) rfl (fun p10 => ?_)
  refine fr_i2l hg dX9_mixedWithTool_65 rfl ?_
  refine fr_cl0 hg (mX9_mixed c6.1 p10.1.toInt64) (fr_crS hg mo_X9_296 rfl (by decide) (by decide) (Nat.le_of_ble_eq_true rfl) dX9_mixedWithTool_66 rfl) rfl ?_
  refine fr_lstore hg (ls' := [(0, .ref (fr_ad w 0)), (3, .int a2), (4, .long (zX9_mixed c6.1 p10.1.toInt64))]) dX9_mixedWithTool_69 (by decide) rfl rfl ?_
  refine fr_lload hg 2 rfl dX9_mixedWithTool_71 rfl ?_
  refine fr_aload_n hg 0 rfl dX9_mixedWithTool_73 rfl ?_
  refine fr_iload_n hg 1 rfl dX9_mixedWithTool_74 rfl ?_
  refine fr_iconst hg (v := 1) (by decide) dX9_mixedWithTool_75 rfl ?_
  refine fr_iconst hg (v := 3) (by decide) dX9_mixedWithTool_76 rfl ?_
  refine fr_iconst hg (v := 1) (by decide) dX9_mixedWithTool_77 rfl ?_
  refine fr_ci2 hg (mX9_stop a2 1 3 1) (fr_crV hg (q := 0) mo_X9_339 rfl ⟨_, _, rfl⟩ rfl (by decide) (by decide) (Nat.le_of_ble_eq_true rfl) dX9_mixedWithTool_78 rfl) rfl (fun p12 => ?_)
  refine fr_i2l hg dX9_mixedWithTool_81 rfl ?_
  refine fr_cl0 hg (mX9_mixed (zX9_mixed c6.1 p10.1.toInt64) p12.1.toInt64) (fr_crS hg mo_X9_296 rfl (by decide) (by decide) (Nat.le_of_ble_eq_true rfl) dX9_mixedWithTool_82 rfl) rfl ?_
  refine fr_lstore hg (ls' := [(0, .ref (fr_ad w 0)), (3, .int a2), (4, .long (zX9_mixed (zX9_mixed c6.1 p10.1.toInt64) p12.1.toInt64))]) dX9_mixedWithTool_85 (by decide) rfl rfl ?_
  refine fr_lload hg 2 rfl dX9_mixedWithTool_87 rfl ?_
  refine fr_aload_n hg 0 rfl dX9_mixedWithTool_89 rfl ?_
  refine fr_bipush hg (v := 20) (by decide) dX9_mixedWithTool_90 rfl ?_
  refine fr_iload_n hg 1 rfl dX9_mixedWithTool_92 rfl ?_
  refine fr_iconst hg (v := 0) (by decide) dX9_mixedWithTool_93 rfl ?_
  refine fr_ci2 hg (mX9_warm 20 a2 0) (fr_crV hg (q := 0) mo_X9_342 rfl ⟨_, _, rfl⟩ rfl (by decide) (by decide) (Nat.le_of_ble_eq_true rfl) dX9_mixedWithTool_94 rfl) rfl (fun p14 => ?_)
  refine fr_i2l hg dX9_mixedWithTool_97 rfl ?_
  refine fr_cl0 hg (mX9_mixed (zX9_mixed (zX9_mixed c6.1 p10.1.toInt64) p12.1.toInt64) p14.1.toInt64) (fr_crS hg mo_X9_296 rfl (by decide) (by decide) (Nat.le_of_ble_eq_true rfl) dX9_mixedWithTool_98 rfl) rfl ?_
  refine fr_lstore hg (ls' := [(0, .ref (fr_ad w 0)), (3, .int a2), (4, .long (zX9_mixed (zX9_mixed (zX9_mixed c6.1 p10.1.toInt64) p12.1.toInt64) p14.1.toInt64))]) dX9_mixedWithTool_101 (by decide) rfl rfl ?_
  refine fr_lload hg 2 rfl dX9_mixedWithTool_103 rfl ?_
  refine fr_aload_n hg 0 rfl dX9_mixedWithTool_105 rfl ?_
  refine fr_bipush hg (v := 20) (by decide) dX9_mixedWithTool_106 rfl ?_
  refine fr_iload_n hg 1 rfl dX9_mixedWithTool_108 rfl ?_
  refine fr_iconst hg (v := 1) (by decide) dX9_mixedWithTool_109 rfl ?_
  refine fr_ci2 hg (mX9_warm 20 a2 1) (fr_crV hg (q := 0) mo_X9_342 rfl ⟨_, _, rfl⟩ rfl (by decide) (by decide) (Nat.le_of_ble_eq_true rfl) dX9_mixedWithTool_110 rfl) rfl (fun p16 => ?_)
  refine fr_i2l hg dX9_mixedWithTool_113 rfl ?_
  refine fr_cl0 hg (mX9_mixed (zX9_mixed (zX9_mixed (zX9_mixed c6.1 p10.1.toInt64) p12.1.toInt64) p14.1.toInt64) p16.1.toInt64) (fr_crS hg mo_X9_296 rfl (by decide) (by decide) (Nat.le_of_ble_eq_true rfl) dX9_mixedWithTool_114 rfl) rfl ?_
  refine fr_lstore hg (ls' := [(0, .ref (fr_ad w 0)), (3, .int a2), (4, .long (zX9_mixed (zX9_mixed (zX9_mixed (zX9_mixed c6.1 p10.1.toInt64) p12.1.toInt64) p14.1.toInt64) p16.1.toInt64))]) dX9_mixedWithTool_117 (by decide) rfl rfl ?_
  refine fr_lload hg 2 rfl dX9_mixedWithTool_119 rfl ?_
  refine fr_aload_n hg 0 rfl dX9_mixedWithTool_121 rfl ?_
  refine fr_bipush hg (v := 6) (by decide) dX9_mixedWithTool_122 rfl ?_
  refine fr_iconst hg (v := 1) (by decide) dX9_mixedWithTool_124 rfl ?_
  refine fr_iconst hg (v := 0) (by decide) dX9_mixedWithTool_125 rfl ?_
  refine fr_iload_n hg 1 rfl dX9_mixedWithTool_126 rfl ?_
  refine fr_iconst hg (v := 0) (by decide) dX9_mixedWithTool_127 rfl ?_
  refine fr_cl1 hg (mX9_tonight 6 1 0 a2 0) (fr_crV hg (q := 0) mo_X9_345 rfl ⟨_, _, rfl⟩ rfl (by decide) (by decide) (Nat.le_of_ble_eq_true rfl) dX9_mixedWithTool_128 rfl) rfl (fun r17 => ?_)
  refine fr_cl0 hg (mX9_mixed (zX9_mixed (zX9_mixed (zX9_mixed (zX9_mixed c6.1 p10.1.toInt64) p12.1.toInt64) p14.1.toInt64) p16.1.toInt64) r17) (fr_crS hg mo_X9_296 rfl (by decide) (by decide) (Nat.le_of_ble_eq_true rfl) dX9_mixedWithTool_131 rfl) rfl ?_
  refine fr_lstore hg (ls' := [(0, .ref (fr_ad w 0)), (3, .int a2), (4, .long (zX9_mixed (zX9_mixed (zX9_mixed (zX9_mixed (zX9_mixed c6.1 p10.1.toInt64) p12.1.toInt64) p14.1.toInt64) p16.1.toInt64) r17))]) dX9_mixedWithTool_134 (by decide) rfl rfl ?_
  refine fr_lload hg 2 rfl dX9_mixedWithTool_136 rfl ?_
  refine fr_aload_n hg 0 rfl dX9_mixedWithTool_138 rfl ?_
  refine fr_bipush hg (v := 6) (by decide) dX9_mixedWithTool_139 rfl ?_
  refine fr_iconst hg (v := 1) (by decide) dX9_mixedWithTool_141 rfl ?_
  refine fr_iconst hg (v := 0) (by decide) dX9_mixedWithTool_142 rfl ?_
  refine fr_iload_n hg 1 rfl dX9_mixedWithTool_143 rfl ?_
  refine fr_iconst hg (v := 1) (by decide) dX9_mixedWithTool_144 rfl ?_
  refine fr_cl1 hg (mX9_tonight 6 1 0 a2 1) (fr_crV hg (q := 0) mo_X9_345 rfl ⟨_, _, rfl⟩ rfl (by decide) (by decide) (Nat.le_of_ble_eq_true rfl) dX9_mixedWithTool_145 rfl) rfl (fun r18 => ?_)
  refine fr_cl0 hg (mX9_mixed (zX9_mixed (zX9_mixed (zX9_mixed (zX9_mixed (zX9_mixed c6.1 p10.1.toInt64) p12.1.toInt64) p14.1.toInt64) p16.1.toInt64) r17) r18) (fr_crS hg mo_X9_296 rfl (by decide) (by decide) (Nat.le_of_ble_eq_true rfl) dX9_mixedWithTool_148 rfl) rfl ?_
  exact fr_lret hg dX9_mixedWithTool_151 (fun h => h)
