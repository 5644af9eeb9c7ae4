noncomputable def zX10_first (σ : fr_St) (a1 : Int32) (a2 : Int32) : Option (Int32 × fr_St) :=
  (zX10_scrapesAll σ).bind (fun σ1 => if zX10_isTool a1 = 0 then some ((-2), σ1) else if zX10_in a2.toInt64 (-1) 31 = 0 then some ((-2), σ1) else (zX10_firstOf σ1 a1 a2).bind (fun p3 => some (p3.1, p3.2)))
set_option maxRecDepth 100000 in
set_option maxHeartbeats 4000000 in
theorem mX10_first (a1 : Int32) (a2 : Int32) : fr_MI2 yX10_first cX10_first 3 .int 5 113 fr_shM (fun w => [.ref (fr_ad w 0), .int a1, .int a2]) (fun σ => zX10_first σ a1 a2) := by
  refine fr_mkI2 (by decide) (fun w => Nat.le_of_ble_eq_true rfl) (fun g w σ hg => ?_)
  show fr_V g w 3 (zX10_first σ a1 a2) _ 0 [(0, .ref (fr_ad w 0)), (1, .int a1), (2, .int a2)] [] σ
  unfold zX10_first
  refine fr_aload_n hg 0 rfl dX10_first_0 rfl ?_
  refine fr_cv2 hg mX10_scrapesAll (fr_crV hg (q := 0) mo_X10_174 rfl ⟨_, _, rfl⟩ rfl (by decide) (by decide) (Nat.le_of_ble_eq_true rfl) dX10_first_1 rfl) rfl (fun σ1 => ?_)
  refine fr_iload_n hg 1 rfl dX10_first_4 rfl ?_
  refine fr_ci0 hg (mX10_isTool a1) (fr_crS hg mo_X10_143 rfl (by decide) (by decide) (Nat.le_of_ble_eq_true rfl) dX10_first_5 rfl) rfl ?_
  refine fr_if_eq hg (m := 34) dX10_first_8 (by decide) rfl ?_ ?_
  · refine fr_bipush hg (v := (-2)) (by decide) dX10_first_34 rfl ?_
    exact fr_iret hg (rty := .int) rfl dX10_first_36 (fun h => h)
  · refine fr_iload_n hg 2 rfl dX10_first_11 rfl ?_
    refine fr_i2l hg dX10_first_12 rfl ?_
    refine fr_ldc2 hg cl_X10_202 dX10_first_13 rfl ?_
    refine fr_ldc2 hg cl_X10_141 dX10_first_16 rfl ?_
    refine fr_ci0 hg (mX10_in a2.toInt64 (-1) 31) (fr_crS hg mo_X10_73 rfl (by decide) (by decide) (Nat.le_of_ble_eq_true rfl) dX10_first_19 rfl) rfl ?_
    refine fr_if_eq hg (m := 34) dX10_first_22 (by decide) rfl ?_ ?_
    · refine fr_bipush hg (v := (-2)) (by decide) dX10_first_34 rfl ?_
      exact fr_iret hg (rty := .int) rfl dX10_first_36 (fun h => h)
    · refine fr_aload_n hg 0 rfl dX10_first_25 rfl ?_
      refine fr_iload_n hg 1 rfl dX10_first_26 rfl ?_
      refine fr_iload_n hg 2 rfl dX10_first_27 rfl ?_
      refine fr_ci2 hg (mX10_firstOf a1 a2) (fr_crV hg (q := 0) mo_X10_204 rfl ⟨_, _, rfl⟩ rfl (by decide) (by decide) (Nat.le_of_ble_eq_true rfl) dX10_first_28 rfl) rfl (fun p3 => ?_)
      refine fr_goto hg (n := 36) dX10_first_31 (by decide) ?_
      exact fr_iret hg (rty := .int) rfl dX10_first_36 (fun h => h)
def zX10_lesser (a1 : Int32) (a2 : Int32) : Int32 :=
  if a2 ≤ a1 then a2 else a1
set_option maxRecDepth 100000 in
set_option maxHeartbeats 4000000 in
theorem mX10_lesser (a1 : Int32) (a2 : Int32) : fr_MI0 yX10_lesser cX10_lesser 2 .int 0 0 fr_shM (fun w => [.int a1, .int a2]) (fun σ => zX10_lesser a1 a2) := by
  refine fr_mkI0 (by decide) (fun w => Nat.le_of_ble_eq_true rfl) (fun g w σ hg => ?_)
  show fr_V g w 2 (some (zX10_lesser a1 a2)) _ 0 [(0, .int a1), (1, .int a2)] [] σ
  unfold zX10_lesser
  refine fr_iload_n hg 0 rfl dX10_lesser_0 rfl ?_
  refine fr_iload_n hg 1 rfl dX10_lesser_1 rfl ?_
  refine fr_some_ite ?_
  refine fr_icmp_ge hg (m := 9) dX10_lesser_2 (by decide) rfl ?_ ?_
  · refine fr_iload_n hg 1 rfl dX10_lesser_9 rfl ?_
    exact fr_iret hg (rty := .int) rfl dX10_lesser_10 (fun h => h)
  · refine fr_iload_n hg 0 rfl dX10_lesser_5 rfl ?_
    refine fr_goto hg (n := 10) dX10_lesser_6 (by decide) ?_
    exact fr_iret hg (rty := .int) rfl dX10_lesser_10 (fun h => h)
noncomputable def zX10_stopOf_L28 (σ : fr_St) (k1 : Int32) (k2 : Int32) (k3 : Int32) (k4 : Int32) (k5 : Int32) (v6 : Int32) (v7 : Int32) (v8 : Int32) (v9 : Int32) (v10 : Int32) : Option ((Int32 × Int32 × Int32 × Int32 × Int32) ⊕ (Int32 × Int32)) :=
  if k5 ≤ v10 then some (.inr (v8, v9)) else (fr_al 32 σ 16 v10).bind (fun x1 => (fr_al 32 σ 17 x1).bind (fun x2 => (fr_al 32 σ 16 v10).bind (fun x3 => (fr_al 32 σ 9 x3).bind (fun x4 => (fr_al 4 σ 11 k1).bind (fun x5 => if v9 ≤ (k2 * (v7 + (x4 * x5))) + (k3 * (v6 - x2)) then some (.inl (v6 - x2, v7 + (x4 * x5), v8, zX10_lesser ((k2 * (v7 + (x4 * x5))) + (k3 * (v6 - x2))) v9, v10 + 1)) else some (.inl (v6 - x2, v7 + (x4 * x5), v10 + 1, zX10_lesser ((k2 * (v7 + (x4 * x5))) + (k3 * (v6 - x2))) v9, v10 + 1)))))))
noncomputable def zX10_stopOf (σ : fr_St) (a1 : Int32) (a2 : Int32) (a3 : Int32) (a4 : Int32) : Option (Int32 × fr_St) :=
  (zX10_findFirst σ a1).bind (fun p2 => (zX10_riskOfRoad p2.2).bind (fun r3 => (fr_loop (fun (b4 : Int32 × Int32 × Int32 × Int32 × Int32) => zX10_stopOf_L28 p2.2 a1 a2 a3 a4 p2.1 b4.1 b4.2.1 b4.2.2.1 b4.2.2.2.1 b4.2.2.2.2) fr_fu (r3, 0, 0, a3 * r3, 0)).bind (fun (c5 : Int32 × Int32) => if a4 = 0 then some (c5.1, p2.2) else some (c5.2, p2.2))))
set_option maxRecDepth 100000 in
set_option maxHeartbeats 4000000 in
theorem mX10_stopOf (a1 : Int32) (a2 : Int32) (a3 : Int32) (a4 : Int32) : fr_MI2 yX10_stopOf cX10_stopOf 12 .int 2 50 fr_shM (fun w => [.ref (fr_ad w 0), .int a1, .int a2, .int a3, .int a4]) (fun σ => zX10_stopOf σ a1 a2 a3 a4) := by
  refine fr_mkI2 (by decide) (fun w => Nat.le_of_ble_eq_true rfl) (fun g w σ hg => ?_)
  show fr_V g w 12 (zX10_stopOf σ a1 a2 a3 a4) _ 0 [(0, .ref (fr_ad w 0)), (1, .int a1), (2, .int a2), (3, .int a3), (4, .int a4)] [] σ
  unfold zX10_stopOf
  refine fr_aload_n hg 0 rfl dX10_stopOf_0 rfl ?_
  refine fr_iload_n hg 1 rfl dX10_stopOf_1 rfl ?_
  refine fr_ci2 hg (mX10_findFirst a1) (fr_crV hg (q := 0) mo_X10_199 rfl ⟨_, _, rfl⟩ rfl (by decide) (by decide) (Nat.le_of_ble_eq_true rfl) dX10_stopOf_2 rfl) rfl (fun p2 => ?_)
  refine fr_istore hg (ls' := [(0, .ref (fr_ad w 0)), (1, .int a1), (2, .int a2), (3, .int a3), (4, .int a4), (5, .int p2.1)]) dX10_stopOf_5 (by decide) rfl rfl ?_
  refine fr_aload_n hg 0 rfl dX10_stopOf_7 rfl ?_
  refine fr_ci1 hg mX10_riskOfRoad (fr_crV hg (q := 0) mo_X10_180 rfl ⟨_, _, rfl⟩ rfl (by decide) (by decide) (Nat.le_of_ble_eq_true rfl) dX10_stopOf_8 rfl) rfl (fun r3 => ?_)
  refine fr_istore hg (ls' := [(0, .ref (fr_ad w 0)), (1, .int a1), (2, .int a2), (3, .int a3), (4, .int a4), (5, .int p2.1), (6, .int r3)]) dX10_stopOf_11 (by decide) rfl rfl ?_
  refine fr_iconst hg (v := 0) (by decide) dX10_stopOf_13 rfl ?_
  refine fr_istore hg (ls' := [(0, .ref (fr_ad w 0)), (1, .int a1), (2, .int a2), (3, .int a3), (4, .int a4), (5, .int p2.1), (6, .int r3), (7, .int 0)]) dX10_stopOf_14 (by decide) rfl rfl ?_
  refine fr_iconst hg (v := 0) (by decide) dX10_stopOf_16 rfl ?_
  refine fr_istore hg (ls' := [(0, .ref (fr_ad w 0)), (1, .int a1), (2, .int a2), (3, .int a3), (4, .int a4), (5, .int p2.1), (6, .int r3), (7, .int 0), (8, .int 0)]) dX10_stopOf_17 (by decide) rfl rfl ?_
  refine fr_iload_n hg 3 rfl dX10_stopOf_19 rfl ?_
  refine fr_iload hg 6 rfl dX10_stopOf_20 rfl ?_
  refine fr_imul hg dX10_stopOf_22 rfl ?_
  refine fr_istore hg (ls' := [(0, .ref (fr_ad w 0)), (1, .int a1), (2, .int a2), (3, .int a3), (4, .int a4), (5, .int p2.1), (6, .int r3), (7, .int 0), (8, .int 0), (9, .int (a3 * r3))]) dX10_stopOf_23 (by decide) rfl rfl ?_
  refine fr_iconst hg (v := 0) (by decide) dX10_stopOf_25 rfl ?_
  refine fr_istore hg (ls' := [(0, .ref (fr_ad w 0)), (1, .int a1), (2, .int a2), (3, .int a3), (4, .int a4), (5, .int p2.1), (6, .int r3), (7, .int 0), (8, .int 0), (9, .int (a3 * r3)), (10, .int 0)]) dX10_stopOf_26 (by decide) rfl rfl ?_
  refine fr_lp (fun (b4 : Int32 × Int32 × Int32 × Int32 × Int32) => [(0, .ref (fr_ad w 0)), (1, .int a1), (2, .int a2), (3, .int a3), (4, .int a4), (5, .int p2.1), (6, .int b4.1), (7, .int b4.2.1), (8, .int b4.2.2.1), (9, .int b4.2.2.2.1), (10, .int b4.2.2.2.2)]) (fun b4 => p2.2) 120 (fun (c5 : Int32 × Int32) => [(4, .int a4), (8, .int c5.1), (9, .int c5.2)]) (fun c5 => p2.2) [0, 1, 2, 3, 4, 5, 6, 7, 8, 9, 10] rfl rfl (fun b4 => ?_) (fun c5 => ?_)
  · show fr_V g w _ (zX10_stopOf_L28 p2.2 a1 a2 a3 a4 p2.1 b4.1 b4.2.1 b4.2.2.1 b4.2.2.2.1 b4.2.2.2.2) _ _ _ _ _
    unfold zX10_stopOf_L28
    refine fr_iload hg 10 rfl dX10_stopOf_28 rfl ?_
    refine fr_iload hg 5 rfl dX10_stopOf_30 rfl ?_
    refine fr_icmp_ge hg (m := 120) dX10_stopOf_32 (by decide) rfl ?_ ?_
    · exact fr_leaf [4, 8, 9] rfl (fun h => h)
    · refine fr_iload hg 6 rfl dX10_stopOf_35 rfl ?_
      refine fr_aload_n hg 0 rfl dX10_stopOf_37 rfl ?_
      refine fr_getr hg (q := 0) (q' := 17) fo_X10_59 rfl rfl dX10_stopOf_38 rfl ?_
      refine fr_aload_n hg 0 rfl dX10_stopOf_41 rfl ?_
      refine fr_getr hg (q := 0) (q' := 16) fo_X10_56 rfl rfl dX10_stopOf_42 rfl ?_
      refine fr_iload hg 10 rfl dX10_stopOf_45 rfl ?_
      refine fr_iaload hg (q := 16) rfl dX10_stopOf_47 rfl (fun x6 => ?_)
      refine fr_iaload hg (q := 17) rfl dX10_stopOf_48 rfl (fun x7 => ?_)
      refine fr_isub hg dX10_stopOf_49 rfl ?_
      refine fr_istore hg (ls' := [(0, .ref (fr_ad w 0)), (1, .int a1), (2, .int a2), (3, .int a3), (4, .int a4), (5, .int p2.1), (6, .int (b4.1 - x7)), (7, .int b4.2.1), (8, .int b4.2.2.1), (9, .int b4.2.2.2.1), (10, .int b4.2.2.2.2)]) dX10_stopOf_50 (by decide) rfl rfl ?_
      refine fr_iload hg 7 rfl dX10_stopOf_52 rfl ?_
      refine fr_aload_n hg 0 rfl dX10_stopOf_54 rfl ?_
      refine fr_getr hg (q := 0) (q' := 9) fo_X10_35 rfl rfl dX10_stopOf_55 rfl ?_
      refine fr_aload_n hg 0 rfl dX10_stopOf_58 rfl ?_
      refine fr_getr hg (q := 0) (q' := 16) fo_X10_56 rfl rfl dX10_stopOf_59 rfl ?_
      refine fr_iload hg 10 rfl dX10_stopOf_62 rfl ?_
      refine fr_iaload hg (q := 16) rfl dX10_stopOf_64 rfl (fun x8 => ?_)
      refine fr_iaload hg (q := 9) rfl dX10_stopOf_65 rfl (fun x9 => ?_)
      refine fr_aload_n hg 0 rfl dX10_stopOf_66 rfl ?_
      refine fr_getr hg (q := 0) (q' := 11) fo_X10_41 rfl rfl dX10_stopOf_67 rfl ?_
      refine fr_iload_n hg 1 rfl dX10_stopOf_70 rfl ?_
      refine fr_iaload hg (q := 11) rfl dX10_stopOf_71 rfl (fun x10 => ?_)
      refine fr_imul hg dX10_stopOf_72 rfl ?_
      refine fr_iadd hg dX10_stopOf_73 rfl ?_
      refine fr_istore hg (ls' := [(0, .ref (fr_ad w 0)), (1, .int a1), (2, .int a2), (3, .int a3), (4, .int a4), (5, .int p2.1), (6, .int (b4.1 - x7)), (7, .int (b4.2.1 + (x9 * x10))), (8, .int b4.2.2.1), (9, .int b4.2.2.2.1), (10, .int b4.2.2.2.2)]) dX10_stopOf_74 (by decide) rfl rfl ?_
      refine fr_iload_n hg 2 rfl dX10_stopOf_76 rfl ?_
      refine fr_iload hg 7 rfl dX10_stopOf_77 rfl ?_
      refine fr_imul hg dX10_stopOf_79 rfl ?_
      refine fr_iload_n hg 3 rfl dX10_stopOf_80 rfl ?_
      refine fr_iload hg 6 rfl dX10_stopOf_81 rfl ?_
      refine fr_imul hg dX10_stopOf_83 rfl ?_
      refine fr_iadd hg dX10_stopOf_84 rfl ?_
      refine fr_istore hg (ls' := [(0, .ref (fr_ad w 0)), (1, .int a1), (2, .int a2), (3, .int a3), (4, .int a4), (5, .int p2.1), (6, .int (b4.1 - x7)), (7, .int (b4.2.1 + (x9 * x10))), (8, .int b4.2.2.1), (9, .int b4.2.2.2.1), (10, .int b4.2.2.2.2), (11, .int ((a2 * (b4.2.1 + (x9 * x10))) + (a3 * (b4.1 - x7))))]) dX10_stopOf_85 (by decide) rfl rfl ?_
      refine fr_iload hg 11 rfl dX10_stopOf_87 rfl ?_
      refine fr_iload hg 9 rfl dX10_stopOf_89 rfl ?_
      refine fr_icmp_ge hg (m := 101) dX10_stopOf_91 (by decide) rfl ?_ ?_
      · refine fr_iload hg 8 rfl dX10_stopOf_101 rfl ?_
        refine fr_istore hg (ls' := [(0, .ref (fr_ad w 0)), (1, .int a1), (2, .int a2), (3, .int a3), (4, .int a4), (5, .int p2.1), (6, .int (b4.1 - x7)), (7, .int (b4.2.1 + (x9 * x10))), (8, .int b4.2.2.1), (9, .int b4.2.2.2.1), (10, .int b4.2.2.2.2), (11, .int ((a2 * (b4.2.1 + (x9 * x10))) + (a3 * (b4.1 - x7))))]) dX10_stopOf_103 (by decide) rfl rfl ?_
        refine fr_iload hg 11 rfl dX10_stopOf_105 rfl ?_
        refine fr_iload hg 9 rfl dX10_stopOf_107 rfl ?_
        refine fr_ci0 hg (mX10_lesser ((a2 * (b4.2.1 + (x9 * x10))) + (a3 * (b4.1 - x7))) b4.2.2.2.1) (fr_crS hg mo_X10_207 rfl (by decide) (by decide) (Nat.le_of_ble_eq_true rfl) dX10_stopOf_109 rfl) rfl ?_
        refine fr_istore hg (ls' := [(0, .ref (fr_ad w 0)), (1, .int a1), (2, .int a2), (3, .int a3), (4, .int a4), (5, .int p2.1), (6, .int (b4.1 - x7)), (7, .int (b4.2.1 + (x9 * x10))), (8, .int b4.2.2.1), (9, .int (zX10_lesser ((a2 * (b4.2.1 + (x9 * x10))) + (a3 * (b4.1 - x7))) b4.2.2.2.1)), (10, .int b4.2.2.2.2), (11, .int ((a2 * (b4.2.1 + (x9 * x10))) + (a3 * (b4.1 - x7))))]) dX10_stopOf_112 (by decide) rfl rfl ?_
        refine fr_iinc hg 10 (v := b4.2.2.2.2 + 1) (ls' := [(0, .ref (fr_ad w 0)), (1, .int a1), (2, .int a2), (3, .int a3), (4, .int a4), (5, .int p2.1), (6, .int (b4.1 - x7)), (7, .int (b4.2.1 + (x9 * x10))), (8, .int b4.2.2.1), (9, .int (zX10_lesser ((a2 * (b4.2.1 + (x9 * x10))) + (a3 * (b4.1 - x7))) b4.2.2.2.1)), (10, .int (b4.2.2.2.2 + 1)), (11, .int ((a2 * (b4.2.1 + (x9 * x10))) + (a3 * (b4.1 - x7))))]) dX10_stopOf_114 rfl rfl (by decide) rfl rfl ?_
        refine fr_goto hg (n := 28) dX10_stopOf_117 (by decide) ?_
        exact fr_leaf [0, 1, 2, 3, 4, 5, 6, 7, 8, 9, 10] rfl (fun h => h)
      · refine fr_iload hg 10 rfl dX10_stopOf_94 rfl ?_
        refine fr_iconst hg (v := 1) (by decide) dX10_stopOf_96 rfl ?_
        refine fr_iadd hg dX10_stopOf_97 rfl ?_
        refine fr_goto hg (n := 103) dX10_stopOf_98 (by decide) ?_
        refine fr_istore hg (ls' := [(0, .ref (fr_ad w 0)), (1, .int a1), (2, .int a2), (3, .int a3), (4, .int a4), (5, .int p2.1), (6, .int (b4.1 - x7)), (7, .int (b4.2.1 + (x9 * x10))), (8, .int (b4.2.2.2.2 + 1)), (9, .int b4.2.2.2.1), (10, .int b4.2.2.2.2), (11, .int ((a2 * (b4.2.1 + (x9 * x10))) + (a3 * (b4.1 - x7))))]) dX10_stopOf_103 (by decide) rfl rfl ?_
        refine fr_iload hg 11 rfl dX10_stopOf_105 rfl ?_
        refine fr_iload hg 9 rfl dX10_stopOf_107 rfl ?_
        refine fr_ci0 hg (mX10_lesser ((a2 * (b4.2.1 + (x9 * x10))) + (a3 * (b4.1 - x7))) b4.2.2.2.1) (fr_crS hg mo_X10_207 rfl (by decide) (by decide) (Nat.le_of_ble_eq_true rfl) dX10_stopOf_109 rfl) rfl ?_
        refine fr_istore hg (ls' := [(0, .ref (fr_ad w 0)), (1, .int a1), (2, .int a2), (3, .int a3), (4, .int a4), (5, .int p2.1), (6, .int (b4.1 - x7)), (7, .int (b4.2.1 + (x9 * x10))), (8, .int (b4.2.2.2.2 + 1)), (9, .int (zX10_lesser ((a2 * (b4.2.1 + (x9 * x10))) + (a3 * (b4.1 - x7))) b4.2.2.2.1)), (10, .int b4.2.2.2.2), (11, .int ((a2 * (b4.2.1 + (x9 * x10))) + (a3 * (b4.1 - x7))))]) dX10_stopOf_112 (by decide) rfl rfl ?_
        refine fr_iinc hg 10 (v := b4.2.2.2.2 + 1) (ls' := [(0, .ref (fr_ad w 0)), (1, .int a1), (2, .int a2), (3, .int a3), (4, .int a4), (5, .int p2.1), (6, .int (b4.1 - x7)), (7, .int (b4.2.1 + (x9 * x10))), (8, .int (b4.2.2.2.2 + 1)), (9, .int (zX10_lesser ((a2 * (b4.2.1 + (x9 * x10))) + (a3 * (b4.1 - x7))) b4.2.2.2.1)), (10, .int (b4.2.2.2.2 + 1)), (11, .int ((a2 * (b4.2.1 + (x9 * x10))) + (a3 * (b4.1 - x7))))]) dX10_stopOf_114 rfl rfl (by decide) rfl rfl ?_
        refine fr_goto hg (n := 28) dX10_stopOf_117 (by decide) ?_
        exact fr_leaf [0, 1, 2, 3, 4, 5, 6, 7, 8, 9, 10] rfl (fun h => h)
  refine fr_iload hg 0 rfl dX10_stopOf_120 rfl ?_
  refine fr_if_ne hg (m := 130) dX10_stopOf_122 (by decide) rfl ?_ ?_
  · refine fr_iload hg 2 rfl dX10_stopOf_130 rfl ?_
    exact fr_iret hg (rty := .int) rfl dX10_stopOf_132 (fun h => h)
  · refine fr_iload hg 1 rfl dX10_stopOf_125 rfl ?_
    refine fr_goto hg (n := 132) dX10_stopOf_127 (by decide) ?_
    exact fr_iret hg (rty := .int) rfl dX10_stopOf_132 (fun h => h)
noncomputable def zX10_stop (σ : fr_St) (a1 : Int32) (a2 : Int32) (a3 : Int32) (a4 : Int32) : Option (Int32 × fr_St) :=
  (zX10_scrapesAll σ).bind (fun σ1 => if zX10_isTool a1 = 0 then some ((-2), σ1) else if zX10_in a2.toInt64 0 99 = 0 then some ((-2), σ1) else if zX10_in a3.toInt64 0 99 = 0 then some ((-2), σ1) else if zX10_isTwo a4 = 0 then some ((-2), σ1) else (zX10_stopOf σ1 a1 a2 a3 a4).bind (fun p3 => some (p3.1, p3.2)))
set_option maxRecDepth 100000 in
set_option maxHeartbeats 4000000 in
theorem mX10_stop (a1 : Int32) (a2 : Int32) (a3 : Int32) (a4 : Int32) : fr_MI2 yX10_stop cX10_stop 5 .int 5 113 fr_shM (fun w => [.ref (fr_ad w 0), .int a1, .int a2, .int a3, .int a4]) (fun σ => zX10_stop σ a1 a2 a3 a4) := by
  refine fr_mkI2 (by decide) (fun w => Nat.le_of_ble_eq_true rfl) (fun g w σ hg => ?_)
  show fr_V g w 5 (zX10_stop σ a1 a2 a3 a4) _ 0 [(0, .ref (fr_ad w 0)), (1, .int a1), (2, .int a2), (3, .int a3), (4, .int a4)] [] σ
  unfold zX10_stop
  refine fr_aload_n hg 0 rfl dX10_stop_0 rfl ?_
  refine fr_cv2 hg mX10_scrapesAll (fr_crV hg (q := 0) mo_X10_174 rfl ⟨_, _, rfl⟩ rfl (by decide) (by decide) (Nat.le_of_ble_eq_true rfl) dX10_stop_1 rfl) rfl (fun σ1 => ?_)
  refine fr_iload_n hg 1 rfl dX10_stop_4 rfl ?_
  refine fr_ci0 hg (mX10_isTool a1) (fr_crS hg mo_X10_143 rfl (by decide) (by decide) (Nat.le_of_ble_eq_true rfl) dX10_stop_5 rfl) rfl ?_
  refine fr_if_eq hg (m := 55) dX10_stop_8 (by decide) rfl ?_ ?_
  · refine fr_bipush hg (v := (-2)) (by decide) dX10_stop_55 rfl ?_
    exact fr_iret hg (rty := .int) rfl dX10_stop_57 (fun h => h)
  · refine fr_iload_n hg 2 rfl dX10_stop_11 rfl ?_
    refine fr_i2l hg dX10_stop_12 rfl ?_
    refine fr_lconst hg (v := 0) (by decide) dX10_stop_13 rfl ?_
    refine fr_ldc2 hg cl_X10_148 dX10_stop_14 rfl ?_
    refine fr_ci0 hg (mX10_in a2.toInt64 0 99) (fr_crS hg mo_X10_73 rfl (by decide) (by decide) (Nat.le_of_ble_eq_true rfl) dX10_stop_17 rfl) rfl ?_
    refine fr_if_eq hg (m := 55) dX10_stop_20 (by decide) rfl ?_ ?_
    · refine fr_bipush hg (v := (-2)) (by decide) dX10_stop_55 rfl ?_
      exact fr_iret hg (rty := .int) rfl dX10_stop_57 (fun h => h)
    · refine fr_iload_n hg 3 rfl dX10_stop_23 rfl ?_
      refine fr_i2l hg dX10_stop_24 rfl ?_
      refine fr_lconst hg (v := 0) (by decide) dX10_stop_25 rfl ?_
      refine fr_ldc2 hg cl_X10_148 dX10_stop_26 rfl ?_
      refine fr_ci0 hg (mX10_in a3.toInt64 0 99) (fr_crS hg mo_X10_73 rfl (by decide) (by decide) (Nat.le_of_ble_eq_true rfl) dX10_stop_29 rfl) rfl ?_
      refine fr_if_eq hg (m := 55) dX10_stop_32 (by decide) rfl ?_ ?_
      · refine fr_bipush hg (v := (-2)) (by decide) dX10_stop_55 rfl ?_
        exact fr_iret hg (rty := .int) rfl dX10_stop_57 (fun h => h)
      · refine fr_iload hg 4 rfl dX10_stop_35 rfl ?_
        refine fr_ci0 hg (mX10_isTwo a4) (fr_crS hg mo_X10_102 rfl (by decide) (by decide) (Nat.le_of_ble_eq_true rfl) dX10_stop_37 rfl) rfl ?_
        refine fr_if_eq hg (m := 55) dX10_stop_40 (by decide) rfl ?_ ?_
        · refine fr_bipush hg (v := (-2)) (by decide) dX10_stop_55 rfl ?_
          exact fr_iret hg (rty := .int) rfl dX10_stop_57 (fun h => h)
        · refine fr_aload_n hg 0 rfl dX10_stop_43 rfl ?_
          refine fr_iload_n hg 1 rfl dX10_stop_44 rfl ?_
          refine fr_iload_n hg 2 rfl dX10_stop_45 rfl ?_
          refine fr_iload_n hg 3 rfl dX10_stop_46 rfl ?_
          refine fr_iload hg 4 rfl dX10_stop_47 rfl ?_
          refine fr_ci2 hg (mX10_stopOf a1 a2 a3 a4) (fr_crV hg (q := 0) mo_X10_210 rfl ⟨_, _, rfl⟩ rfl (by decide) (by decide) (Nat.le_of_ble_eq_true rfl) dX10_stop_49 rfl) rfl (fun p3 => ?_)
          refine fr_goto hg (n := 57) dX10_stop_52 (by decide) ?_
          exact fr_iret hg (rty := .int) rfl dX10_stop_57 (fun h => h)
noncomputable def zX10_thickest_L6 (σ : fr_St) (k1 : Int32) (k2 : Int32) (k3 : Int32) (v4 : Int32) (v5 : Int32) : Option ((Int32 × Int32) ⊕ (Int32)) :=
  if 32 ≤ v5 then some (.inr v4) else if zX10_isIn k3 v5 = 0 then (fr_al 32 σ 9 v5).bind (fun x3 => (fr_dv k1 k2).bind (fun x4 => (some (if x3 ≤ x4 then 0 else 1) : Option (Int32)).bind (fun t5 => if t5 = 0 then some (.inl (v4, v5 + 1)) else if v4 = (-1) then some (.inl (v5, v5 + 1)) else (fr_al 32 σ 9 v5).bind (fun x6 => (fr_al 32 σ 9 v4).bind (fun x7 => if x6 ≤ x7 then some (.inl (v4, v5 + 1)) else some (.inl (v5, v5 + 1))))))) else if (0 : Int32) = 0 then some (.inl (v4, v5 + 1)) else if v4 = (-1) then some (.inl (v5, v5 + 1)) else (fr_al 32 σ 9 v5).bind (fun x1 => (fr_al 32 σ 9 v4).bind (fun x2 => if x1 ≤ x2 then some (.inl (v4, v5 + 1)) else some (.inl (v5, v5 + 1))))
noncomputable def zX10_thickest (σ : fr_St) (a1 : Int32) (a2 : Int32) (a3 : Int32) : Option (Int32) :=
  (fr_loop (fun (b1 : Int32 × Int32) => zX10_thickest_L6 σ a1 a2 a3 b1.1 b1.2) fr_fu ((-1), 0)).bind (fun (c2 : Int32) => some c2)
set_option maxRecDepth 100000 in
set_option maxHeartbeats 4000000 in
theorem mX10_thickest (a1 : Int32) (a2 : Int32) (a3 : Int32) : fr_MI1 yX10_thickest cX10_thickest 7 .int 1 21 fr_shM (fun w => [.ref (fr_ad w 0), .int a1, .int a2, .int a3]) (fun σ => zX10_thickest σ a1 a2 a3) := by
  refine fr_mkI1 (by decide) (fun w => Nat.le_of_ble_eq_true rfl) (fun g w σ hg => ?_)
  show fr_V g w 7 (zX10_thickest σ a1 a2 a3) _ 0 [(0, .ref (fr_ad w 0)), (1, .int a1), (2, .int a2), (3, .int a3)] [] σ
  unfold zX10_thickest
  refine fr_iconst hg (v := (-1)) (by decide) dX10_thickest_0 rfl ?_
  refine fr_istore hg (ls' := [(0, .ref (fr_ad w 0)), (1, .int a1), (2, .int a2), (3, .int a3), (4, .int (-1))]) dX10_thickest_1 (by decide) rfl rfl ?_
  refine fr_iconst hg (v := 0) (by decide) dX10_thickest_3 rfl ?_
  refine fr_istore hg (ls' := [(0, .ref (fr_ad w 0)), (1, .int a1), (2, .int a2), (3, .int a3), (4, .int (-1)), (5, .int 0)]) dX10_thickest_4 (by decide) rfl rfl ?_
  refine fr_lp (fun (b1 : Int32 × Int32) => [(0, .ref (fr_ad w 0)), (1, .int a1), (2, .int a2), (3, .int a3), (4, .int b1.1), (5, .int b1.2)]) (fun b1 => σ) 85 (fun (c2 : Int32) => [(4, .int c2)]) (fun c2 => σ) [0, 1, 2, 3, 4, 5] rfl rfl (fun b1 => ?_) (fun c2 => ?_)
  · show fr_V g w _ (zX10_thickest_L6 σ a1 a2 a3 b1.1 b1.2) _ _ _ _ _
    unfold zX10_thickest_L6
    refine fr_iload hg 5 rfl dX10_thickest_6 rfl ?_
    refine fr_bipush hg (v := 32) (by decide) dX10_thickest_8 rfl ?_
    refine fr_icmp_ge hg (m := 85) dX10_thickest_10 (by decide) rfl ?_ ?_
    · exact fr_leaf [4] rfl (fun h => h)
    · refine fr_iload_n hg 3 rfl dX10_thickest_13 rfl ?_
      refine fr_iload hg 5 rfl dX10_thickest_14 rfl ?_
      refine fr_ci0 hg (mX10_isIn a3 b1.2) (fr_crS hg mo_X10_195 rfl (by decide) (by decide) (Nat.le_of_ble_eq_true rfl) dX10_thickest_16 rfl) rfl ?_
      refine fr_if_ne hg (m := 39) dX10_thickest_19 (by decide) rfl ?_ ?_
      · refine fr_iconst hg (v := 0) (by decide) dX10_thickest_39 rfl ?_
        refine fr_istore hg (ls' := [(0, .ref (fr_ad w 0)), (1, .int a1), (2, .int a2), (3, .int a3), (4, .int b1.1), (5, .int b1.2), (6, .int 0)]) dX10_thickest_40 (by decide) rfl rfl ?_
        refine fr_iload hg 6 rfl dX10_thickest_42 rfl ?_
        refine fr_if_eq hg (m := 75) dX10_thickest_44 (by decide) rfl ?_ ?_
        · refine fr_iload hg 4 rfl dX10_thickest_75 rfl ?_
          refine fr_istore hg (ls' := [(0, .ref (fr_ad w 0)), (1, .int a1), (2, .int a2), (3, .int a3), (4, .int b1.1), (5, .int b1.2), (6, .int 0)]) dX10_thickest_77 (by decide) rfl rfl ?_
          refine fr_iinc hg 5 (v := b1.2 + 1) (ls' := [(0, .ref (fr_ad w 0)), (1, .int a1), (2, .int a2), (3, .int a3), (4, .int b1.1), (5, .int (b1.2 + 1)), (6, .int 0)]) dX10_thickest_79 rfl rfl (by decide) rfl rfl ?_
          refine fr_goto hg (n := 6) dX10_thickest_82 (by decide) ?_
          exact fr_leaf [0, 1, 2, 3, 4, 5] rfl (fun h => h)
        · refine fr_iload hg 4 rfl dX10_thickest_47 rfl ?_
          refine fr_iconst hg (v := (-1)) (by decide) dX10_thickest_49 rfl ?_
          refine fr_icmp_eq hg (m := 70) dX10_thickest_50 (by decide) rfl ?_ ?_
          · refine fr_iload hg 5 rfl dX10_thickest_70 rfl ?_
            refine fr_goto hg (n := 77) dX10_thickest_72 (by decide) ?_
            refine fr_istore hg (ls' := [(0, .ref (fr_ad w 0)), (1, .int a1), (2, .int a2), (3, .int a3), (4, .int b1.2), (5, .int b1.2), (6, .int 0)]) dX10_thickest_77 (by decide) rfl rfl ?_
            refine fr_iinc hg 5 (v := b1.2 + 1) (ls' := [(0, .ref (fr_ad w 0)), (1, .int a1), (2, .int a2), (3, .int a3), (4, .int b1.2), (5, .int (b1.2 + 1)), (6, .int 0)]) dX10_thickest_79 rfl rfl (by decide) rfl rfl ?_
            refine fr_goto hg (n := 6) dX10_thickest_82 (by decide) ?_
            exact fr_leaf [0, 1, 2, 3, 4, 5] rfl (fun h => h)
          · refine fr_aload_n hg 0 rfl dX10_thickest_53 rfl ?_
            refine fr_getr hg (q := 0) (q' := 9) fo_X10_35 rfl rfl dX10_thickest_54 rfl ?_
            refine fr_iload hg 5 rfl dX10_thickest_57 rfl ?_
            refine fr_iaload hg (q := 9) rfl dX10_thickest_59 rfl (fun x3 => ?_)
            refine fr_aload_n hg 0 rfl dX10_thickest_60 rfl ?_
            refine fr_getr hg (q := 0) (q' := 9) fo_X10_35 rfl rfl dX10_thickest_61 rfl ?_
            refine fr_iload hg 4 rfl dX10_thickest_64 rfl ?_
            refine fr_iaload hg (q := 9) rfl dX10_thickest_66 rfl (fun x4 => ?_)
            refine fr_icmp_le hg (m := 75) dX10_thickest_67 (by decide) rfl ?_ ?_
            · refine fr_iload hg 4 rfl dX10_thickest_75 rfl ?_
              refine fr_istore hg (ls' := [(0, .ref (fr_ad w 0)), (1, .int a1), (2, .int a2), (3, .int a3), (4, .int b1.1), (5, .int b1.2), (6, .int 0)]) dX10_thickest_77 (by decide) rfl rfl ?_
              refine fr_iinc hg 5 (v := b1.2 + 1) (ls' := [(0, .ref (fr_ad w 0)), (1, .int a1), (2, .int a2), (3, .int a3), (4, .int b1.1), (5, .int (b1.2 + 1)), (6, .int 0)]) dX10_thickest_79 rfl rfl (by decide) rfl rfl ?_
              refine fr_goto hg (n := 6) dX10_thickest_82 (by decide) ?_
              exact fr_leaf [0, 1, 2, 3, 4, 5] rfl (fun h => h)
            · refine fr_iload hg 5 rfl dX10_thickest_70 rfl ?_
              refine fr_goto hg (n := 77) dX10_thickest_72 (by decide) ?_
              refine fr_istore hg (ls' := [(0, .ref (fr_ad w 0)), (1, .int a1), (2, .int a2), (3, .int a3), (4, .int b1.2), (5, .int b1.2), (6, .int 0)]) dX10_thickest_77 (by decide) rfl rfl ?_
              refine fr_iinc hg 5 (v := b1.2 + 1) (ls' := [(0, .ref (fr_ad w 0)), (1, .int a1), (2, .int a2), (3, .int a3), (4, .int b1.2), (5, .int (b1.2 + 1)), (6, .int 0)]) dX10_thickest_79 rfl rfl (by decide) rfl rfl ?_
              refine fr_goto hg (n := 6) dX10_thickest_82 (by decide) ?_
              exact fr_leaf [0, 1, 2, 3, 4, 5] rfl (fun h => h)
      · refine fr_aload_n hg 0 rfl dX10_thickest_22 rfl ?_
        refine fr_getr hg (q := 0) (q' := 9) fo_X10_35 rfl rfl dX10_thickest_23 rfl ?_
        refine fr_iload hg 5 rfl dX10_thickest_26 rfl ?_
        refine fr_iaload hg (q := 9) rfl dX10_thickest_28 rfl (fun x5 => ?_)
        refine fr_iload_n hg 1 rfl dX10_thickest_29 rfl ?_
        refine fr_iload_n hg 2 rfl dX10_thickest_30 rfl ?_
        refine fr_idiv hg dX10_thickest_31 rfl (fun x6 => ?_)
        refine fr_join (m := 40) (lj := fun (t7 : Int32) => [(0, .ref (fr_ad w 0)), (1, .int a1), (2, .int a2), (3, .int a3), (4, .int b1.1), (5, .int b1.2)]) (sj := fun t7 => [.int t7]) (wj := fun t7 => σ) ?_ (fun t7 => ?_)
        · refine fr_some_ite ?_
          refine fr_icmp_le hg (m := 39) dX10_thickest_32 (by decide) rfl ?_ ?_
          · refine fr_iconst hg (v := 0) (by decide) dX10_thickest_39 rfl ?_
            exact fr_leaf [0, 1, 2, 3, 4, 5] rfl (fun h => h)
          · refine fr_iconst hg (v := 1) (by decide) dX10_thickest_35 rfl ?_
            refine fr_goto hg (n := 40) dX10_thickest_36 (by decide) ?_
            exact fr_leaf [0, 1, 2, 3, 4, 5] rfl (fun h => h)
        refine fr_istore hg (ls' := [(0, .ref (fr_ad w 0)), (1, .int a1), (2, .int a2), (3, .int a3), (4, .int b1.1), (5, .int b1.2), (6, .int t7)]) dX10_thickest_40 (by decide) rfl rfl ?_
        refine fr_iload hg 6 rfl dX10_thickest_42 rfl ?_
        refine fr_if_eq hg (m := 75) dX10_thickest_44 (by decide) rfl ?_ ?_
        · refine fr_iload hg 4 rfl dX10_thickest_75 rfl ?_
          refine fr_istore hg (ls' := [(0, .ref (fr_ad w 0)), (1, .int a1), (2, .int a2), (3, .int a3), (4, .int b1.1), (5, .int b1.2), (6, .int t7)]) dX10_thickest_77 (by decide) rfl rfl ?_
          refine fr_iinc hg 5 (v := b1.2 + 1) (ls' := [(0, .ref (fr_ad w 0)), (1, .int a1), (2, .int a2), (3, .int a3), (4, .int b1.1), (5, .int (b1.2 + 1)), (6, .int t7)]) dX10_thickest_79 rfl rfl (by decide) rfl rfl ?_
          refine fr_goto hg (n := 6) dX10_thickest_82 (by decide) ?_
          exact fr_leaf [0, 1, 2, 3, 4, 5] rfl (fun h => h)
        · refine fr_iload hg 4 rfl dX10_thickest_47 rfl ?_
          refine fr_iconst hg (v := (-1)) (by decide) dX10_thickest_49 rfl ?_
          refine fr_icmp_eq hg (m := 70) dX10_thickest_50 (by decide) rfl ?_ ?_
          · refine fr_iload hg 5 rfl dX10_thickest_70 rfl ?_
            refine fr_goto hg (n := 77) dX10_thickest_72 (by decide) ?_
            refine fr_istore hg (ls' := [(0, .ref (fr_ad w 0)), (1, .int a1), (2, .int a2), (3, .int a3), (4, .int b1.2), (5, .int b1.2), (6, .int t7)]) dX10_thickest_77 (by decide) rfl rfl ?_
            refine fr_iinc hg 5 (v := b1.2 + 1) (ls' := [(0, .ref (fr_ad w 0)), (1, .int a1), (2, .int a2), (3, .int a3), (4, .int b1.2), (5, .int (b1.2 + 1)), (6, .int t7)]) dX10_thickest_79 rfl rfl (by decide) rfl rfl ?_
            refine fr_goto hg (n := 6) dX10_thickest_82 (by decide) ?_
            exact fr_leaf [0, 1, 2, 3, 4, 5] rfl (fun h => h)
          · refine fr_aload_n hg 0 rfl dX10_thickest_53 rfl ?_
            refine fr_getr hg (q := 0) (q' := 9) fo_X10_35 rfl rfl dX10_thickest_54 rfl ?_
            refine fr_iload hg 5 rfl dX10_thickest_57 rfl ?_
            refine fr_iaload hg (q := 9) rfl dX10_thickest_59 rfl (fun x8 => ?_)
            refine fr_aload_n hg 0 rfl dX10_thickest_60 rfl ?_
            refine fr_getr hg (q := 0) (q' := 9) fo_X10_35 rfl rfl dX10_thickest_61 rfl ?_
            refine fr_iload hg 4 rfl dX10_thickest_64 rfl ?_
            refine fr_iaload hg (q := 9) rfl dX10_thickest_66 rfl (fun x9 => ?_)
            refine fr_icmp_le hg (m := 75) dX10_thickest_67 (by decide) rfl ?_ ?_
            · refine fr_iload hg 4 rfl dX10_thickest_75 rfl ?_
              refine fr_istore hg (ls' := [(0, .ref (fr_ad w 0)), (1, .int a1), (2, .int a2), (3, .int a3), (4, .int b1.1), (5, .int b1.2), (6, .int t7)]) dX10_thickest_77 (by decide) rfl rfl ?_
              refine fr_iinc hg 5 (v := b1.2 + 1) (ls' := [(0, .ref (fr_ad w 0)), (1, .int a1), (2, .int a2), (3, .int a3), (4, .int b1.1), (5, .int (b1.2 + 1)), (6, .int t7)]) dX10_thickest_79 rfl rfl (by decide) rfl rfl ?_
              refine fr_goto hg (n := 6) dX10_thickest_82 (by decide) ?_
              exact fr_leaf [0, 1, 2, 3, 4, 5] rfl (fun h => h)
            · refine fr_iload hg 5 rfl dX10_thickest_70 rfl ?_
              refine fr_goto hg (n := 77) dX10_thickest_72 (by decide) ?_
              refine fr_istore hg (ls' := [(0, .ref (fr_ad w 0)), (1, .int a1), (2, .int a2), (3, .int a3), (4, .int b1.2), (5, .int b1.2), (6, .int t7)]) dX10_thickest_77 (by decide) rfl rfl ?_
              refine fr_iinc hg 5 (v := b1.2 + 1) (ls' := [(0, .ref (fr_ad w 0)), (1, .int a1), (2, .int a2), (3, .int a3), (4, .int b1.2), (5, .int (b1.2 + 1)), (6, .int t7)]) dX10_thickest_79 rfl rfl (by decide) rfl rfl ?_
              refine fr_goto hg (n := 6) dX10_thickest_82 (by decide) ?_
              exact fr_leaf [0, 1, 2, 3, 4, 5] rfl (fun h => h)
  refine fr_iload hg 0 rfl dX10_thickest_85 rfl ?_
  exact fr_iret hg (rty := .int) rfl dX10_thickest_87 (fun h => h)
noncomputable def zX10_warmOf_L15 (σ : fr_St) (k1 : Int32) (k2 : Int32) (k3 : Int32) (v4 : Int32) (v5 : Int32) (v6 : Int32) : Option ((Int32 × Int32 × Int32) ⊕ ((Int32) ⊕ (Int32))) :=
  if v6 = (-1) then some (.inr (.inr v4)) else (fr_al 32 σ 9 v6).bind (fun x1 => (fr_al 4 σ 11 k2).bind (fun x2 => (fr_al 32 σ 9 v6).bind (fun x3 => (fr_dv v4 k1).bind (fun x4 => if k3 = 0 then some (.inr (.inl (k1 * x1))) else if v4 + (x2 * (x3 - x4)) < k1 * x1 then (zX10_thickest σ (v4 + (x2 * (x3 - x4))) k1 (v5 ||| (1 <<< (v6 &&& 31)))).bind (fun r5 => some (.inl (v4 + (x2 * (x3 - x4)), v5 ||| (1 <<< (v6 &&& 31)), r5))) else some (.inr (.inl (k1 * x1)))))))
noncomputable def zX10_warmOf (σ : fr_St) (a1 : Int32) (a2 : Int32) (a3 : Int32) : Option (Int32) :=
  (zX10_thickest σ 0 a1 0).bind (fun r1 => (fr_loop (fun (b2 : Int32 × Int32 × Int32) => zX10_warmOf_L15 σ a1 a2 a3 b2.1 b2.2.1 b2.2.2) fr_fu (0, 0, r1)).bind (fr_ei (fun r => some r) (fun (c3 : Int32) => some c3)))
set_option maxRecDepth 100000 in
set_option maxHeartbeats 4000000 in
theorem mX10_warmOf (a1 : Int32) (a2 : Int32) (a3 : Int32) : fr_MI1 yX10_warmOf cX10_warmOf 9 .int 2 47 fr_shM (fun w => [.ref (fr_ad w 0), .int a1, .int a2, .int a3]) (fun σ => zX10_warmOf σ a1 a2 a3) := by
  refine fr_mkI1 (by decide) (fun w => Nat.le_of_ble_eq_true rfl) (fun g w σ hg => ?_)
  show fr_V g w 9 (zX10_warmOf σ a1 a2 a3) _ 0 [(0, .ref (fr_ad w 0)), (1, .int a1), (2, .int a2), (3, .int a3)] [] σ
  unfold zX10_warmOf
  refine fr_iconst hg (v := 0) (by decide) dX10_warmOf_0 rfl ?_
  refine fr_istore hg (ls' := [(0, .ref (fr_ad w 0)), (1, .int a1), (2, .int a2), (3, .int a3), (4, .int 0)]) dX10_warmOf_1 (by decide) rfl rfl ?_
  refine fr_iconst hg (v := 0) (by decide) dX10_warmOf_3 rfl ?_
  refine fr_istore hg (ls' := [(0, .ref (fr_ad w 0)), (1, .int a1), (2, .int a2), (3, .int a3), (4, .int 0), (5, .int 0)]) dX10_warmOf_4 (by decide) rfl rfl ?_
  refine fr_aload_n hg 0 rfl dX10_warmOf_6 rfl ?_
  refine fr_iconst hg (v := 0) (by decide) dX10_warmOf_7 rfl ?_
  refine fr_iload_n hg 1 rfl dX10_warmOf_8 rfl ?_
  refine fr_iconst hg (v := 0) (by decide) dX10_warmOf_9 rfl ?_
  refine fr_ci1 hg (mX10_thickest 0 a1 0) (fr_crV hg (q := 0) mo_X10_214 rfl ⟨_, _, rfl⟩ rfl (by decide) (by decide) (Nat.le_of_ble_eq_true rfl) dX10_warmOf_10 rfl) rfl (fun r1 => ?_)
  refine fr_istore hg (ls' := [(0, .ref (fr_ad w 0)), (1, .int a1), (2, .int a2), (3, .int a3), (4, .int 0), (5, .int 0), (6, .int r1)]) dX10_warmOf_13 (by decide) rfl rfl ?_
  refine fr_lpr (fun (b2 : Int32 × Int32 × Int32) => [(0, .ref (fr_ad w 0)), (1, .int a1), (2, .int a2), (3, .int a3), (4, .int b2.1), (5, .int b2.2.1), (6, .int b2.2.2)]) (fun b2 => σ) 97 (fun (c3 : Int32) => [(4, .int c3)]) (fun c3 => σ) [0, 1, 2, 3, 4, 5, 6] rfl rfl (fun r => fr_RI g w .int r σ) (fun r t h1 h2 => ?_) (fun b2 => ?_) (fun c3 => ?_)
  · cases h1; exact h2
  · show fr_V g w _ (zX10_warmOf_L15 σ a1 a2 a3 b2.1 b2.2.1 b2.2.2) _ _ _ _ _
    unfold zX10_warmOf_L15
    refine fr_iload hg 6 rfl dX10_warmOf_15 rfl ?_
    refine fr_iconst hg (v := (-1)) (by decide) dX10_warmOf_17 rfl ?_
    refine fr_icmp_eq hg (m := 97) dX10_warmOf_18 (by decide) rfl ?_ ?_
    · exact fr_leaf [4] rfl (fun h => h)
    · refine fr_iload_n hg 1 rfl dX10_warmOf_21 rfl ?_
      refine fr_aload_n hg 0 rfl dX10_warmOf_22 rfl ?_
      refine fr_getr hg (q := 0) (q' := 9) fo_X10_35 rfl rfl dX10_warmOf_23 rfl ?_
      refine fr_iload hg 6 rfl dX10_warmOf_26 rfl ?_
      refine fr_iaload hg (q := 9) rfl dX10_warmOf_28 rfl (fun x4 => ?_)
      refine fr_imul hg dX10_warmOf_29 rfl ?_
      refine fr_istore hg (ls' := [(0, .ref (fr_ad w 0)), (1, .int a1), (2, .int a2), (3, .int a3), (4, .int b2.1), (5, .int b2.2.1), (6, .int b2.2.2), (7, .int (a1 * x4))]) dX10_warmOf_30 (by decide) rfl rfl ?_
      refine fr_iload hg 4 rfl dX10_warmOf_32 rfl ?_
      refine fr_aload_n hg 0 rfl dX10_warmOf_34 rfl ?_
      refine fr_getr hg (q := 0) (q' := 11) fo_X10_41 rfl rfl dX10_warmOf_35 rfl ?_
      refine fr_iload_n hg 2 rfl dX10_warmOf_38 rfl ?_
      refine fr_iaload hg (q := 11) rfl dX10_warmOf_39 rfl (fun x5 => ?_)
      refine fr_aload_n hg 0 rfl dX10_warmOf_40 rfl ?_
      refine fr_getr hg (q := 0) (q' := 9) fo_X10_35 rfl rfl dX10_warmOf_41 rfl ?_
      refine fr_iload hg 6 rfl dX10_warmOf_44 rfl ?_
      refine fr_iaload hg (q := 9) rfl dX10_warmOf_46 rfl (fun x6 => ?_)
      refine fr_iload hg 4 rfl dX10_warmOf_47 rfl ?_
      refine fr_iload_n hg 1 rfl dX10_warmOf_49 rfl ?_
      refine fr_idiv hg dX10_warmOf_50 rfl (fun x7 => ?_)
      refine fr_isub hg dX10_warmOf_51 rfl ?_
      refine fr_imul hg dX10_warmOf_52 rfl ?_
      refine fr_iadd hg dX10_warmOf_53 rfl ?_
      refine fr_istore hg (ls' := [(0, .ref (fr_ad w 0)), (1, .int a1), (2, .int a2), (3, .int a3), (4, .int b2.1), (5, .int b2.2.1), (6, .int b2.2.2), (7, .int (a1 * x4)), (8, .int (b2.1 + (x5 * (x6 - x7))))]) dX10_warmOf_54 (by decide) rfl rfl ?_
      refine fr_iload_n hg 3 rfl dX10_warmOf_56 rfl ?_
      refine fr_if_eq hg (m := 67) dX10_warmOf_57 (by decide) rfl ?_ ?_
      · refine fr_iload hg 7 rfl dX10_warmOf_67 rfl ?_
        exact fr_iret hg (rty := .int) rfl dX10_warmOf_69 (fun h => h)
      · refine fr_iload hg 7 rfl dX10_warmOf_60 rfl ?_
        refine fr_iload hg 8 rfl dX10_warmOf_62 rfl ?_
        refine fr_icmp_gt hg (m := 70) dX10_warmOf_64 (by decide) rfl ?_ ?_
        · refine fr_iload hg 5 rfl dX10_warmOf_70 rfl ?_
          refine fr_iconst hg (v := 1) (by decide) dX10_warmOf_72 rfl ?_
          refine fr_iload hg 6 rfl dX10_warmOf_73 rfl ?_
          refine fr_ishl hg dX10_warmOf_75 rfl ?_
          refine fr_ior hg dX10_warmOf_76 rfl ?_
          refine fr_istore hg (ls' := [(0, .ref (fr_ad w 0)), (1, .int a1), (2, .int a2), (3, .int a3), (4, .int b2.1), (5, .int (b2.2.1 ||| (1 <<< (b2.2.2 &&& 31)))), (6, .int b2.2.2), (7, .int (a1 * x4)), (8, .int (b2.1 + (x5 * (x6 - x7))))]) dX10_warmOf_77 (by decide) rfl rfl ?_
          refine fr_iload hg 8 rfl dX10_warmOf_79 rfl ?_
          refine fr_istore hg (ls' := [(0, .ref (fr_ad w 0)), (1, .int a1), (2, .int a2), (3, .int a3), (4, .int (b2.1 + (x5 * (x6 - x7)))), (5, .int (b2.2.1 ||| (1 <<< (b2.2.2 &&& 31)))), (6, .int b2.2.2), (7, .int (a1 * x4)), (8, .int (b2.1 + (x5 * (x6 - x7))))]) dX10_warmOf_81 (by decide) rfl rfl ?_
          refine fr_aload_n hg 0 rfl dX10_warmOf_83 rfl ?_
          refine fr_iload hg 4 rfl dX10_warmOf_84 rfl ?_
          refine fr_iload_n hg 1 rfl dX10_warmOf_86 rfl ?_
          refine fr_iload hg 5 rfl dX10_warmOf_87 rfl ?_
          refine fr_ci1 hg (mX10_thickest (b2.1 + (x5 * (x6 - x7))) a1 (b2.2.1 ||| (1 <<< (b2.2.2 &&& 31)))) (fr_crV hg (q := 0) mo_X10_214 rfl ⟨_, _, rfl⟩ rfl (by decide) (by decide) (Nat.le_of_ble_eq_true rfl) dX10_warmOf_89 rfl) rfl (fun r8 => ?_)
          refine fr_istore hg (ls' := [(0, .ref (fr_ad w 0)), (1, .int a1), (2, .int a2), (3, .int a3), (4, .int (b2.1 + (x5 * (x6 - x7)))), (5, .int (b2.2.1 ||| (1 <<< (b2.2.2 &&& 31)))), (6, .int r8), (7, .int (a1 * x4)), (8, .int (b2.1 + (x5 * (x6 - x7))))]) dX10_warmOf_92 (by decide) rfl rfl ?_
          refine fr_goto hg (n := 15) dX10_warmOf_94 (by decide) ?_
          exact fr_leaf [0, 1, 2, 3, 4, 5, 6] rfl (fun h => h)
        · refine fr_iload hg 7 rfl dX10_warmOf_67 rfl ?_
          exact fr_iret hg (rty := .int) rfl dX10_warmOf_69 (fun h => h)
  refine fr_iload hg 0 rfl dX10_warmOf_97 rfl ?_
  exact fr_iret hg (rty := .int) rfl dX10_warmOf_99 (fun h => h)
noncomputable def zX10_warm (σ : fr_St) (a1 : Int32) (a2 : Int32) (a3 : Int32) : Option (Int32 × fr_St) :=
  (zX10_scrapesAll σ).bind (fun σ1 => if zX10_in a1.toInt64 1 60 = 0 then some ((-2), σ1) else if zX10_isTool a2 = 0 then some ((-2), σ1) else if zX10_isTwo a3 = 0 then some ((-2), σ1) else (zX10_warmOf σ1 a1 a2 a3).bind (fun r2 => some (r2, σ1)))
set_option maxRecDepth 100000 in
set_option maxHeartbeats 4000000 in
theorem mX10_warm (a1 : Int32) (a2 : Int32) (a3 : Int32) : fr_MI2 yX10_warm cX10_warm 4 .int 5 113 fr_shM (fun w => [.ref (fr_ad w 0), .int a1, .int a2, .int a3]) (fun σ => zX10_warm σ a1 a2 a3) := by
  refine fr_mkI2 (by decide) (fun w => Nat.le_of_ble_eq_true rfl) (fun g w σ hg => ?_)
  show fr_V g w 4 (zX10_warm σ a1 a2 a3) _ 0 [(0, .ref (fr_ad w 0)), (1, .int a1), (2, .int a2), (3, .int a3)] [] σ
  unfold zX10_warm
  refine fr_aload_n hg 0 rfl dX10_warm_0 rfl ?_
  refine fr_cv2 hg mX10_scrapesAll (fr_crV hg (q := 0) mo_X10_174 rfl ⟨_, _, rfl⟩ rfl (by decide) (by decide) (Nat.le_of_ble_eq_true rfl) dX10_warm_1 rfl) rfl (fun σ1 => ?_)
  refine fr_iload_n hg 1 rfl dX10_warm_4 rfl ?_
  refine fr_i2l hg dX10_warm_5 rfl ?_
  refine fr_lconst hg (v := 1) (by decide) dX10_warm_6 rfl ?_
  refine fr_ldc2 hg cl_X10_146 dX10_warm_7 rfl ?_
  refine fr_ci0 hg (mX10_in a1.toInt64 1 60) (fr_crS hg mo_X10_73 rfl (by decide) (by decide) (Nat.le_of_ble_eq_true rfl) dX10_warm_10 rfl) rfl ?_
  refine fr_if_eq hg (m := 40) dX10_warm_13 (by decide) rfl ?_ ?_
  · refine fr_bipush hg (v := (-2)) (by decide) dX10_warm_40 rfl ?_
    exact fr_iret hg (rty := .int) rfl dX10_warm_42 (fun h => h)
  · refine fr_iload_n hg 2 rfl dX10_warm_16 rfl ?_
    refine fr_ci0 hg (mX10_isTool a2) (fr_crS hg mo_X10_143 rfl (by decide) (by decide) (Nat.le_of_ble_eq_true rfl) dX10_warm_17 rfl) rfl ?_
    refine fr_if_eq hg (m := 40) dX10_warm_20 (by decide) rfl ?_ ?_
    · refine fr_bipush hg (v := (-2)) (by decide) dX10_warm_40 rfl ?_
      exact fr_iret hg (rty := .int) rfl dX10_warm_42 (fun h => h)
    · refine fr_iload_n hg 3 rfl dX10_warm_23 rfl ?_
      refine fr_ci0 hg (mX10_isTwo a3) (fr_crS hg mo_X10_102 rfl (by decide) (by decide) (Nat.le_of_ble_eq_true rfl) dX10_warm_24 rfl) rfl ?_
      refine fr_if_eq hg (m := 40) dX10_warm_27 (by decide) rfl ?_ ?_
      · refine fr_bipush hg (v := (-2)) (by decide) dX10_warm_40 rfl ?_
        exact fr_iret hg (rty := .int) rfl dX10_warm_42 (fun h => h)
      · refine fr_aload_n hg 0 rfl dX10_warm_30 rfl ?_
        refine fr_iload_n hg 1 rfl dX10_warm_31 rfl ?_
        refine fr_iload_n hg 2 rfl dX10_warm_32 rfl ?_
        refine fr_iload_n hg 3 rfl dX10_warm_33 rfl ?_
        refine fr_ci1 hg (mX10_warmOf a1 a2 a3) (fr_crV hg (q := 0) mo_X10_217 rfl ⟨_, _, rfl⟩ rfl (by decide) (by decide) (Nat.le_of_ble_eq_true rfl) dX10_warm_34 rfl) rfl (fun r2 => ?_)
        refine fr_goto hg (n := 42) dX10_warm_37 (by decide) ?_
        exact fr_iret hg (rty := .int) rfl dX10_warm_42 (fun h => h)
def zX10_crack (a1 : Int32) (a2 : Int32) : Int32 :=
  if zX10_in a1.toInt64 (-1) 99 = 0 then (-2) else if zX10_in a2.toInt64 0 30 = 0 then (-2) else if a1 = (-1) then 40 - a2 else if a1 + a2 ≤ 40 then 0 else 1
set_option maxRecDepth 100000 in
set_option maxHeartbeats 4000000 in
theorem mX10_crack (a1 : Int32) (a2 : Int32) : fr_MI0 yX10_crack cX10_crack 3 .int 1 25 fr_shM (fun w => [.ref (fr_ad w 0), .int a1, .int a2]) (fun σ => zX10_crack a1 a2) := by
  refine fr_mkI0 (by decide) (fun w => Nat.le_of_ble_eq_true rfl) (fun g w σ hg => ?_)
  show fr_V g w 3 (some (zX10_crack a1 a2)) _ 0 [(0, .ref (fr_ad w 0)), (1, .int a1), (2, .int a2)] [] σ
  unfold zX10_crack
  refine fr_iload_n hg 1 rfl dX10_crack_0 rfl ?_
  refine fr_i2l hg dX10_crack_1 rfl ?_
  refine fr_ldc2 hg cl_X10_202 dX10_crack_2 rfl ?_
  refine fr_ldc2 hg cl_X10_148 dX10_crack_5 rfl ?_
  refine fr_ci0 hg (mX10_in a1.toInt64 (-1) 99) (fr_crS hg mo_X10_73 rfl (by decide) (by decide) (Nat.le_of_ble_eq_true rfl) dX10_crack_8 rfl) rfl ?_
  refine fr_some_ite ?_
  refine fr_if_eq hg (m := 26) dX10_crack_11 (by decide) rfl ?_ ?_
  · refine fr_bipush hg (v := (-2)) (by decide) dX10_crack_26 rfl ?_
    refine fr_goto hg (n := 56) dX10_crack_28 (by decide) ?_
    exact fr_iret hg (rty := .int) rfl dX10_crack_56 (fun h => h)
  · refine fr_iload_n hg 2 rfl dX10_crack_14 rfl ?_
    refine fr_i2l hg dX10_crack_15 rfl ?_
    refine fr_lconst hg (v := 0) (by decide) dX10_crack_16 rfl ?_
    refine fr_ldc2 hg cl_X10_220 dX10_crack_17 rfl ?_
    refine fr_ci0 hg (mX10_in a2.toInt64 0 30) (fr_crS hg mo_X10_73 rfl (by decide) (by decide) (Nat.le_of_ble_eq_true rfl) dX10_crack_20 rfl) rfl ?_
    refine fr_some_ite ?_
    refine fr_if_ne hg (m := 31) dX10_crack_23 (by decide) rfl ?_ ?_
    · refine fr_iload_n hg 1 rfl dX10_crack_31 rfl ?_
      refine fr_iconst hg (v := (-1)) (by decide) dX10_crack_32 rfl ?_
      refine fr_some_ite ?_
      refine fr_icmp_ne hg (m := 43) dX10_crack_33 (by decide) rfl ?_ ?_
      · refine fr_iload_n hg 1 rfl dX10_crack_43 rfl ?_
        refine fr_iload_n hg 2 rfl dX10_crack_44 rfl ?_
        refine fr_iadd hg dX10_crack_45 rfl ?_
        refine fr_bipush hg (v := 40) (by decide) dX10_crack_46 rfl ?_
        refine fr_some_ite ?_
        refine fr_icmp_le hg (m := 55) dX10_crack_48 (by decide) rfl ?_ ?_
        · refine fr_iconst hg (v := 0) (by decide) dX10_crack_55 rfl ?_
          exact fr_iret hg (rty := .int) rfl dX10_crack_56 (fun h => h)
        · refine fr_iconst hg (v := 1) (by decide) dX10_crack_51 rfl ?_
          refine fr_goto hg (n := 56) dX10_crack_52 (by decide) ?_
          exact fr_iret hg (rty := .int) rfl dX10_crack_56 (fun h => h)
      · refine fr_bipush hg (v := 40) (by decide) dX10_crack_36 rfl ?_
        refine fr_iload_n hg 2 rfl dX10_crack_38 rfl ?_
        refine fr_isub hg dX10_crack_39 rfl ?_
        refine fr_goto hg (n := 56) dX10_crack_40 (by decide) ?_
        exact fr_iret hg (rty := .int) rfl dX10_crack_56 (fun h => h)
    · refine fr_bipush hg (v := (-2)) (by decide) dX10_crack_26 rfl ?_
      refine fr_goto hg (n := 56) dX10_crack_28 (by decide) ?_
      exact fr_iret hg (rty := .int) rfl dX10_crack_56 (fun h => h)
