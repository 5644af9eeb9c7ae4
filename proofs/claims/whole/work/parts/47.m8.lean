noncomputable def zX10_gone (σ : fr_St)  : Option (Int32 × fr_St) :=
  if σ 0 27 = 0 then some ((-3), σ) else some ((fr_put σ 0 27 ((σ 0 27) - 1)) 0 27, (fr_put σ 0 27 ((σ 0 27) - 1)))
set_option maxRecDepth 100000 in
set_option maxHeartbeats 4000000 in
theorem mX10_gone  : fr_MI2 yX10_gone cX10_gone 1 .int 0 0 fr_shM (fun w => [.ref (fr_ad w 0)]) (fun σ => zX10_gone σ) := by
  refine fr_mkI2 (by decide) (fun w => Nat.le_of_ble_eq_true rfl) (fun g w σ hg => ?_)
  show fr_V g w 1 (zX10_gone σ) _ 0 [(0, .ref (fr_ad w 0))] [] σ
  unfold zX10_gone
  refine fr_aload_n hg 0 rfl dX10_gone_0 rfl ?_
  refine fr_geti hg (q := 0) fo_X10_254 rfl rfl dX10_gone_1 rfl ?_
  refine fr_if_ne hg (m := 10) dX10_gone_4 (by decide) rfl ?_ ?_
  · refine fr_aload_n hg 0 rfl dX10_gone_10 rfl ?_
    refine fr_dup hg rfl dX10_gone_11 rfl ?_
    refine fr_geti hg (q := 0) fo_X10_254 rfl rfl dX10_gone_12 rfl ?_
    refine fr_iconst hg (v := 1) (by decide) dX10_gone_15 rfl ?_
    refine fr_isub hg dX10_gone_16 rfl ?_
    refine fr_puti hg (q := 0) fp_X10_254 rfl rfl rfl rfl dX10_gone_17 rfl ?_
    refine fr_aload_n hg 0 rfl dX10_gone_20 rfl ?_
    refine fr_geti hg (q := 0) fo_X10_254 rfl rfl dX10_gone_21 rfl ?_
    exact fr_iret hg (rty := .int) rfl dX10_gone_24 (fun h => h)
  · refine fr_bipush hg (v := (-3)) (by decide) dX10_gone_7 rfl ?_
    exact fr_iret hg (rty := .int) rfl dX10_gone_9 (fun h => h)
noncomputable def zX10_lays_L9 (v2 : Int32) (v3 : Int32) (σ : fr_St) : Option ((Int32 × Int32 × fr_St) ⊕ (fr_St)) :=
  if v3 < 0 then some (.inr σ) else (fr_rm v2 ((σ 0 27) - v3)).bind (fun x1 => (fr_as 7 σ 19 v3 x1).bind (fun σ2 => (fr_dv v2 ((σ2 0 27) - v3)).bind (fun x3 => some (.inl (x3, v3 + (-1), σ2)))))
noncomputable def zX10_lays_L58 (k3 : Int32) (v4 : Int32) (σ : fr_St) : Option ((Int32 × fr_St) ⊕ (fr_St)) :=
  if σ 0 27 ≤ v4 then some (.inr σ) else (fr_al 7 σ 19 v4).bind (fun x1 => (fr_al 7 σ 19 v4).bind (fun x2 => (fr_al 7 σ 19 k3).bind (fun x3 => if x2 < x3 then (fr_as 7 σ 19 v4 (x1 + 0)).bind (fun σ4 => some (.inl (v4 + 1, σ4))) else (fr_as 7 σ 19 v4 (x1 + 1)).bind (fun σ5 => some (.inl (v4 + 1, σ5))))))
noncomputable def zX10_lays_L49 (v3 : Int32) (σ : fr_St) : Option ((Int32 × fr_St) ⊕ (fr_St)) :=
  if v3 < 0 then some (.inr σ) else (fr_loop (fun (b1 : Int32 × fr_St) => zX10_lays_L58 v3 b1.1 b1.2) fr_fu (v3 + 1, σ)).bind (fun (c2 : fr_St) => some (.inl (v3 + (-1), c2)))
noncomputable def zX10_lays (σ : fr_St) (a1 : Int32) : Option (fr_St) :=
  (fr_loop (fun (b1 : Int32 × Int32 × fr_St) => zX10_lays_L9 b1.1 b1.2.1 b1.2.2) fr_fu (a1, (σ 0 27) - 1, σ)).bind (fun (c2 : fr_St) => (fr_loop (fun (b6 : Int32 × fr_St) => zX10_lays_L49 b6.1 b6.2) fr_fu ((c2 0 27) - 1, c2)).bind (fun (c7 : fr_St) => some c7))
set_option maxRecDepth 100000 in
set_option maxHeartbeats 4000000 in
theorem mX10_lays (a1 : Int32) : fr_MV2 yX10_lays cX10_lays 5 0 0 fr_shM (fun w => [.ref (fr_ad w 0), .int a1]) (fun σ => zX10_lays σ a1) := by
  refine fr_mkV2 (by decide) (fun w => Nat.le_of_ble_eq_true rfl) (fun g w σ hg => ?_)
  show fr_V g w 5 (zX10_lays σ a1) _ 0 [(0, .ref (fr_ad w 0)), (1, .int a1)] [] σ
  unfold zX10_lays
  refine fr_iload_n hg 1 rfl dX10_lays_0 rfl ?_
  refine fr_istore_n hg (ls' := [(0, .ref (fr_ad w 0)), (1, .int a1), (2, .int a1)]) dX10_lays_1 rfl (by decide) rfl rfl ?_
  refine fr_aload_n hg 0 rfl dX10_lays_2 rfl ?_
  refine fr_geti hg (q := 0) fo_X10_254 rfl rfl dX10_lays_3 rfl ?_
  refine fr_iconst hg (v := 1) (by decide) dX10_lays_6 rfl ?_
  refine fr_isub hg dX10_lays_7 rfl ?_
  refine fr_istore_n hg (ls' := [(0, .ref (fr_ad w 0)), (1, .int a1), (2, .int a1), (3, .int ((σ 0 27) - 1))]) dX10_lays_8 rfl (by decide) rfl rfl ?_
  refine fr_lp (fun (b1 : Int32 × Int32 × fr_St) => [(0, .ref (fr_ad w 0)), (2, .int b1.1), (3, .int b1.2.1)]) (fun b1 => b1.2.2) 42 (fun (c2 : fr_St) => [(0, .ref (fr_ad w 0))]) (fun c2 => c2) [0, 2, 3] rfl rfl (fun b1 => ?_) (fun c2 => ?_)
  · show fr_V g w _ (zX10_lays_L9 b1.1 b1.2.1 b1.2.2) _ _ _ _ _
    unfold zX10_lays_L9
    refine fr_iload_n hg 2 rfl dX10_lays_9 rfl ?_
    refine fr_if_lt hg (m := 42) dX10_lays_10 (by decide) rfl ?_ ?_
    · exact fr_leaf [0] rfl (fun h => h)
    · refine fr_aload_n hg 0 rfl dX10_lays_13 rfl ?_
      refine fr_getr hg (q := 0) (q' := 19) fo_X10_65 rfl rfl dX10_lays_14 rfl ?_
      refine fr_iload_n hg 2 rfl dX10_lays_17 rfl ?_
      refine fr_iload_n hg 1 rfl dX10_lays_18 rfl ?_
      refine fr_aload_n hg 0 rfl dX10_lays_19 rfl ?_
      refine fr_geti hg (q := 0) fo_X10_254 rfl rfl dX10_lays_20 rfl ?_
      refine fr_iload_n hg 2 rfl dX10_lays_23 rfl ?_
      refine fr_isub hg dX10_lays_24 rfl ?_
      refine fr_irem hg dX10_lays_25 rfl (fun x3 => ?_)
      refine fr_iastore hg (q := 19) rfl dX10_lays_26 rfl (fun σ4 => ?_)
      refine fr_iload_n hg 1 rfl dX10_lays_27 rfl ?_
      refine fr_aload_n hg 0 rfl dX10_lays_28 rfl ?_
      refine fr_geti hg (q := 0) fo_X10_254 rfl rfl dX10_lays_29 rfl ?_
      refine fr_iload_n hg 2 rfl dX10_lays_32 rfl ?_
      refine fr_isub hg dX10_lays_33 rfl ?_
      refine fr_idiv hg dX10_lays_34 rfl (fun x5 => ?_)
      refine fr_istore_n hg (ls' := [(0, .ref (fr_ad w 0)), (2, .int x5), (3, .int b1.2.1)]) dX10_lays_35 rfl (by decide) rfl rfl ?_
      refine fr_iinc hg 2 (v := b1.2.1 + (-1)) (ls' := [(0, .ref (fr_ad w 0)), (2, .int x5), (3, .int (b1.2.1 + (-1)))]) dX10_lays_36 rfl rfl (by decide) rfl rfl ?_
      refine fr_goto hg (n := 9) dX10_lays_39 (by decide) ?_
      exact fr_leaf [0, 1, 2] rfl (fun h => h)
  refine fr_aload_n hg 0 rfl dX10_lays_42 rfl ?_
  refine fr_geti hg (q := 0) fo_X10_254 rfl rfl dX10_lays_43 rfl ?_
  refine fr_iconst hg (v := 1) (by decide) dX10_lays_46 rfl ?_
  refine fr_isub hg dX10_lays_47 rfl ?_
  refine fr_istore_n hg (ls' := [(0, .ref (fr_ad w 0)), (3, .int ((c2 0 27) - 1))]) dX10_lays_48 rfl (by decide) rfl rfl ?_
  refine fr_lp (fun (b6 : Int32 × fr_St) => [(0, .ref (fr_ad w 0)), (3, .int b6.1)]) (fun b6 => b6.2) 110 (fun (c7 : fr_St) => []) (fun c7 => c7) [0, 1] rfl rfl (fun b6 => ?_) (fun c7 => ?_)
  · show fr_V g w _ (zX10_lays_L49 b6.1 b6.2) _ _ _ _ _
    unfold zX10_lays_L49
    refine fr_iload_n hg 1 rfl dX10_lays_49 rfl ?_
    refine fr_if_lt hg (m := 110) dX10_lays_50 (by decide) rfl ?_ ?_
    · exact fr_leaf [] rfl (fun h => h)
    · refine fr_iload_n hg 1 rfl dX10_lays_53 rfl ?_
      refine fr_iconst hg (v := 1) (by decide) dX10_lays_54 rfl ?_
      refine fr_iadd hg dX10_lays_55 rfl ?_
      refine fr_istore hg (ls' := [(0, .ref (fr_ad w 0)), (3, .int b6.1), (4, .int (b6.1 + 1))]) dX10_lays_56 (by decide) rfl rfl ?_
      refine fr_lp (fun (b8 : Int32 × fr_St) => [(0, .ref (fr_ad w 0)), (3, .int b6.1), (4, .int b8.1)]) (fun b8 => b8.2) 104 (fun (c9 : fr_St) => [(0, .ref (fr_ad w 0)), (3, .int b6.1)]) (fun c9 => c9) [0, 1, 2] rfl rfl (fun b8 => ?_) (fun c9 => ?_)
      · show fr_V g w _ (zX10_lays_L58 b6.1 b8.1 b8.2) _ _ _ _ _
        unfold zX10_lays_L58
        refine fr_iload hg 2 rfl dX10_lays_58 rfl ?_
        refine fr_aload_n hg 0 rfl dX10_lays_60 rfl ?_
        refine fr_geti hg (q := 0) fo_X10_254 rfl rfl dX10_lays_61 rfl ?_
        refine fr_icmp_ge hg (m := 104) dX10_lays_64 (by decide) rfl ?_ ?_
        · exact fr_leaf [0, 1] rfl (fun h => h)
        · refine fr_aload_n hg 0 rfl dX10_lays_67 rfl ?_
          refine fr_getr hg (q := 0) (q' := 19) fo_X10_65 rfl rfl dX10_lays_68 rfl ?_
          refine fr_iload hg 2 rfl dX10_lays_71 rfl ?_
          refine fr_dup2 hg rfl rfl dX10_lays_73 rfl ?_
          refine fr_iaload hg (q := 19) rfl dX10_lays_74 rfl (fun x10 => ?_)
          refine fr_aload_n hg 0 rfl dX10_lays_75 rfl ?_
          refine fr_getr hg (q := 0) (q' := 19) fo_X10_65 rfl rfl dX10_lays_76 rfl ?_
          refine fr_iload hg 2 rfl dX10_lays_79 rfl ?_
          refine fr_iaload hg (q := 19) rfl dX10_lays_81 rfl (fun x11 => ?_)
          refine fr_aload_n hg 0 rfl dX10_lays_82 rfl ?_
          refine fr_getr hg (q := 0) (q' := 19) fo_X10_65 rfl rfl dX10_lays_83 rfl ?_
          refine fr_iload_n hg 1 rfl dX10_lays_86 rfl ?_
          refine fr_iaload hg (q := 19) rfl dX10_lays_87 rfl (fun x12 => ?_)
          refine fr_icmp_lt hg (m := 95) dX10_lays_88 (by decide) rfl ?_ ?_
          · refine fr_iconst hg (v := 0) (by decide) dX10_lays_95 rfl ?_
            refine fr_iadd hg dX10_lays_96 rfl ?_
            refine fr_iastore hg (q := 19) rfl dX10_lays_97 rfl (fun σ13 => ?_)
            refine fr_iinc hg 2 (v := b8.1 + 1) (ls' := [(0, .ref (fr_ad w 0)), (3, .int b6.1), (4, .int (b8.1 + 1))]) dX10_lays_98 rfl rfl (by decide) rfl rfl ?_
            refine fr_goto hg (n := 58) dX10_lays_101 (by decide) ?_
            exact fr_leaf [0, 1, 2] rfl (fun h => h)
          · refine fr_iconst hg (v := 1) (by decide) dX10_lays_91 rfl ?_
            refine fr_goto hg (n := 96) dX10_lays_92 (by decide) ?_
            refine fr_iadd hg dX10_lays_96 rfl ?_
            refine fr_iastore hg (q := 19) rfl dX10_lays_97 rfl (fun σ14 => ?_)
            refine fr_iinc hg 2 (v := b8.1 + 1) (ls' := [(0, .ref (fr_ad w 0)), (3, .int b6.1), (4, .int (b8.1 + 1))]) dX10_lays_98 rfl rfl (by decide) rfl rfl ?_
            refine fr_goto hg (n := 58) dX10_lays_101 (by decide) ?_
            exact fr_leaf [0, 1, 2] rfl (fun h => h)
      refine fr_iinc hg 1 (v := b6.1 + (-1)) (ls' := [(0, .ref (fr_ad w 0)), (3, .int (b6.1 + (-1)))]) dX10_lays_104 rfl rfl (by decide) rfl rfl ?_
      refine fr_goto hg (n := 49) dX10_lays_107 (by decide) ?_
      exact fr_leaf [0, 1] rfl (fun h => h)
  exact fr_vret hg dX10_lays_110 (fun h => h)
noncomputable def zX10_late_L6 (σ : fr_St) (v1 : Int32) (v2 : Int32) (v3 : Int32) : Option ((Int32 × Int32 × Int32) ⊕ (Int32)) :=
  if σ 0 27 ≤ v3 then some (.inr v2) else (fr_al 7 σ 19 v3).bind (fun x1 => (fr_al 14 σ 18 (2 * x1)).bind (fun x2 => (fr_al 7 σ 19 v3).bind (fun x3 => (fr_al 14 σ 18 ((2 * x3) + 1)).bind (fun x4 => some (.inl (v1 + x2, v2 + (zX10_greater ((v1 + x2) - x4) 0), v3 + 1))))))
noncomputable def zX10_late (σ : fr_St)  : Option (Int32) :=
  (fr_loop (fun (b1 : Int32 × Int32 × Int32) => zX10_late_L6 σ b1.1 b1.2.1 b1.2.2) fr_fu (0, 0, 0)).bind (fun (c2 : Int32) => some c2)
set_option maxRecDepth 100000 in
set_option maxHeartbeats 4000000 in
theorem mX10_late  : fr_MI1 yX10_late cX10_late 4 .int 1 21 fr_shM (fun w => [.ref (fr_ad w 0)]) (fun σ => zX10_late σ) := by
  refine fr_mkI1 (by decide) (fun w => Nat.le_of_ble_eq_true rfl) (fun g w σ hg => ?_)
  show fr_V g w 4 (zX10_late σ) _ 0 [(0, .ref (fr_ad w 0))] [] σ
  unfold zX10_late
  refine fr_iconst hg (v := 0) (by decide) dX10_late_0 rfl ?_
  refine fr_istore_n hg (ls' := [(0, .ref (fr_ad w 0)), (1, .int 0)]) dX10_late_1 rfl (by decide) rfl rfl ?_
  refine fr_iconst hg (v := 0) (by decide) dX10_late_2 rfl ?_
  refine fr_istore_n hg (ls' := [(0, .ref (fr_ad w 0)), (1, .int 0), (2, .int 0)]) dX10_late_3 rfl (by decide) rfl rfl ?_
  refine fr_iconst hg (v := 0) (by decide) dX10_late_4 rfl ?_
  refine fr_istore_n hg (ls' := [(0, .ref (fr_ad w 0)), (1, .int 0), (2, .int 0), (3, .int 0)]) dX10_late_5 rfl (by decide) rfl rfl ?_
  refine fr_lp (fun (b1 : Int32 × Int32 × Int32) => [(0, .ref (fr_ad w 0)), (1, .int b1.1), (2, .int b1.2.1), (3, .int b1.2.2)]) (fun b1 => σ) 60 (fun (c2 : Int32) => [(2, .int c2)]) (fun c2 => σ) [0, 1, 2, 3] rfl rfl (fun b1 => ?_) (fun c2 => ?_)
  · show fr_V g w _ (zX10_late_L6 σ b1.1 b1.2.1 b1.2.2) _ _ _ _ _
    unfold zX10_late_L6
    refine fr_iload_n hg 3 rfl dX10_late_6 rfl ?_
    refine fr_aload_n hg 0 rfl dX10_late_7 rfl ?_
    refine fr_geti hg (q := 0) fo_X10_254 rfl rfl dX10_late_8 rfl ?_
    refine fr_icmp_ge hg (m := 60) dX10_late_11 (by decide) rfl ?_ ?_
    · exact fr_leaf [2] rfl (fun h => h)
    · refine fr_iload_n hg 1 rfl dX10_late_14 rfl ?_
      refine fr_aload_n hg 0 rfl dX10_late_15 rfl ?_
      refine fr_getr hg (q := 0) (q' := 18) fo_X10_62 rfl rfl dX10_late_16 rfl ?_
      refine fr_iconst hg (v := 2) (by decide) dX10_late_19 rfl ?_
      refine fr_aload_n hg 0 rfl dX10_late_20 rfl ?_
      refine fr_getr hg (q := 0) (q' := 19) fo_X10_65 rfl rfl dX10_late_21 rfl ?_
      refine fr_iload_n hg 3 rfl dX10_late_24 rfl ?_
      refine fr_iaload hg (q := 19) rfl dX10_late_25 rfl (fun x3 => ?_)
      refine fr_imul hg dX10_late_26 rfl ?_
      refine fr_iaload hg (q := 18) rfl dX10_late_27 rfl (fun x4 => ?_)
      refine fr_iadd hg dX10_late_28 rfl ?_
      refine fr_istore_n hg (ls' := [(0, .ref (fr_ad w 0)), (1, .int (b1.1 + x4)), (2, .int b1.2.1), (3, .int b1.2.2)]) dX10_late_29 rfl (by decide) rfl rfl ?_
      refine fr_iload_n hg 2 rfl dX10_late_30 rfl ?_
      refine fr_iload_n hg 1 rfl dX10_late_31 rfl ?_
      refine fr_aload_n hg 0 rfl dX10_late_32 rfl ?_
      refine fr_getr hg (q := 0) (q' := 18) fo_X10_62 rfl rfl dX10_late_33 rfl ?_
      refine fr_iconst hg (v := 2) (by decide) dX10_late_36 rfl ?_
      refine fr_aload_n hg 0 rfl dX10_late_37 rfl ?_
      refine fr_getr hg (q := 0) (q' := 19) fo_X10_65 rfl rfl dX10_late_38 rfl ?_
      refine fr_iload_n hg 3 rfl dX10_late_41 rfl ?_
      refine fr_iaload hg (q := 19) rfl dX10_late_42 rfl (fun x5 => ?_)
      refine fr_imul hg dX10_late_43 rfl ?_
      refine fr_iconst hg (v := 1) (by decide) dX10_late_44 rfl ?_
      refine fr_iadd hg dX10_late_45 rfl ?_
      refine fr_iaload hg (q := 18) rfl dX10_late_46 rfl (fun x6 => ?_)
      refine fr_isub hg dX10_late_47 rfl ?_
      refine fr_iconst hg (v := 0) (by decide) dX10_late_48 rfl ?_
      refine fr_ci0 hg (mX10_greater ((b1.1 + x4) - x6) 0) (fr_crS hg mo_X10_225 rfl (by decide) (by decide) (Nat.le_of_ble_eq_true rfl) dX10_late_49 rfl) rfl ?_
      refine fr_iadd hg dX10_late_52 rfl ?_
      refine fr_istore_n hg (ls' := [(0, .ref (fr_ad w 0)), (1, .int (b1.1 + x4)), (2, .int (b1.2.1 + (zX10_greater ((b1.1 + x4) - x6) 0))), (3, .int b1.2.2)]) dX10_late_53 rfl (by decide) rfl rfl ?_
      refine fr_iinc hg 3 (v := b1.2.2 + 1) (ls' := [(0, .ref (fr_ad w 0)), (1, .int (b1.1 + x4)), (2, .int (b1.2.1 + (zX10_greater ((b1.1 + x4) - x6) 0))), (3, .int (b1.2.2 + 1))]) dX10_late_54 rfl rfl (by decide) rfl rfl ?_
      refine fr_goto hg (n := 6) dX10_late_57 (by decide) ?_
      exact fr_leaf [0, 1, 2, 3] rfl (fun h => h)
  refine fr_iload_n hg 0 rfl dX10_late_60 rfl ?_
  exact fr_iret hg (rty := .int) rfl dX10_late_61 (fun h => h)
noncomputable def zX10_findRow_L4 (σ : fr_St) (v1 : Int32) (v2 : Int32) : Option ((Int32 × Int32) ⊕ (Int32)) :=
  if σ 0 27 < v2 then some (.inr v1) else some (.inl (v1 * v2, v2 + 1))
noncomputable def zX10_findRow_L59 (k1 : Int32) (k2 : Int32) (k3 : Int32) (v5 : Int32) (σ : fr_St) : Option ((Int32 × fr_St) ⊕ (fr_St)) :=
  if σ 0 27 ≤ v5 then some (.inr σ) else (fr_al 7 σ 19 v5).bind (fun x1 => (fr_as 7 σ 20 v5 x1).bind (fun σ2 => some (.inl (v5 + 1, σ2))))
noncomputable def zX10_findRow_L26 (k1 : Int32) (v2 : Int32) (v3 : Int32) (σ : fr_St) : Option ((Int32 × Int32 × fr_St) ⊕ (Int32 × fr_St)) :=
  if k1 ≤ v3 then some (.inr (v2, σ)) else (zX10_lays σ v3).bind (fun σ1 => (zX10_late σ1).bind (fun r2 => if v2 = (-1) then (fr_loop (fun (b3 : Int32 × fr_St) => zX10_findRow_L59 k1 r2 v3 b3.1 b3.2) fr_fu (0, σ1)).bind (fun (c4 : fr_St) => some (.inl (r2, v3 + 1, c4))) else if v2 ≤ r2 then some (.inl (v2, v3 + 1, σ1)) else (fr_loop (fun (b7 : Int32 × fr_St) => zX10_findRow_L59 k1 r2 v3 b7.1 b7.2) fr_fu (0, σ1)).bind (fun (c8 : fr_St) => some (.inl (r2, v3 + 1, c8)))))
noncomputable def zX10_findRow (σ : fr_St)  : Option (Int32 × fr_St) :=
  (fr_loop (fun (b1 : Int32 × Int32) => zX10_findRow_L4 σ b1.1 b1.2) fr_fu (1, 2)).bind (fun (c2 : Int32) => (fr_loop (fun (b3 : Int32 × Int32 × fr_St) => zX10_findRow_L26 c2 b3.1 b3.2.1 b3.2.2) fr_fu ((-1), 0, σ)).bind (fun (c4 : Int32 × fr_St) => some (c4.1, c4.2)))
set_option maxRecDepth 100000 in
set_option maxHeartbeats 4000000 in
theorem mX10_findRow  : fr_MI2 yX10_findRow cX10_findRow 6 .int 2 44 fr_shM (fun w => [.ref (fr_ad w 0)]) (fun σ => zX10_findRow σ) := by
  refine fr_mkI2 (by decide) (fun w => Nat.le_of_ble_eq_true rfl) (fun g w σ hg => ?_)
  show fr_V g w 6 (zX10_findRow σ) _ 0 [(0, .ref (fr_ad w 0))] [] σ
  unfold zX10_findRow
  refine fr_iconst hg (v := 1) (by decide) dX10_findRow_0 rfl ?_
  refine fr_istore_n hg (ls' := [(0, .ref (fr_ad w 0)), (1, .int 1)]) dX10_findRow_1 rfl (by decide) rfl rfl ?_
  refine fr_iconst hg (v := 2) (by decide) dX10_findRow_2 rfl ?_
  refine fr_istore_n hg (ls' := [(0, .ref (fr_ad w 0)), (1, .int 1), (2, .int 2)]) dX10_findRow_3 rfl (by decide) rfl rfl ?_
  refine fr_lp (fun (b1 : Int32 × Int32) => [(0, .ref (fr_ad w 0)), (1, .int b1.1), (2, .int b1.2)]) (fun b1 => σ) 22 (fun (c2 : Int32) => [(0, .ref (fr_ad w 0)), (1, .int c2)]) (fun c2 => σ) [0, 1, 2] rfl rfl (fun b1 => ?_) (fun c2 => ?_)
  · show fr_V g w _ (zX10_findRow_L4 σ b1.1 b1.2) _ _ _ _ _
    unfold zX10_findRow_L4
    refine fr_iload_n hg 2 rfl dX10_findRow_4 rfl ?_
    refine fr_aload_n hg 0 rfl dX10_findRow_5 rfl ?_
    refine fr_geti hg (q := 0) fo_X10_254 rfl rfl dX10_findRow_6 rfl ?_
    refine fr_icmp_gt hg (m := 22) dX10_findRow_9 (by decide) rfl ?_ ?_
    · exact fr_leaf [0, 1] rfl (fun h => h)
    · refine fr_iload_n hg 1 rfl dX10_findRow_12 rfl ?_
      refine fr_iload_n hg 2 rfl dX10_findRow_13 rfl ?_
      refine fr_imul hg dX10_findRow_14 rfl ?_
      refine fr_istore_n hg (ls' := [(0, .ref (fr_ad w 0)), (1, .int (b1.1 * b1.2)), (2, .int b1.2)]) dX10_findRow_15 rfl (by decide) rfl rfl ?_
      refine fr_iinc hg 2 (v := b1.2 + 1) (ls' := [(0, .ref (fr_ad w 0)), (1, .int (b1.1 * b1.2)), (2, .int (b1.2 + 1))]) dX10_findRow_16 rfl rfl (by decide) rfl rfl ?_
      refine fr_goto hg (n := 4) dX10_findRow_19 (by decide) ?_
      exact fr_leaf [0, 1, 2] rfl (fun h => h)
  refine fr_iconst hg (v := (-1)) (by decide) dX10_findRow_22 rfl ?_
  refine fr_istore_n hg (ls' := [(0, .ref (fr_ad w 0)), (1, .int c2), (2, .int (-1))]) dX10_findRow_23 rfl (by decide) rfl rfl ?_
  refine fr_iconst hg (v := 0) (by decide) dX10_findRow_24 rfl ?_
  refine fr_istore_n hg (ls' := [(0, .ref (fr_ad w 0)), (1, .int c2), (2, .int (-1)), (3, .int 0)]) dX10_findRow_25 rfl (by decide) rfl rfl ?_
  refine fr_lp (fun (b3 : Int32 × Int32 × fr_St) => [(0, .ref (fr_ad w 0)), (1, .int c2), (2, .int b3.1), (3, .int b3.2.1)]) (fun b3 => b3.2.2) 94 (fun (c4 : Int32 × fr_St) => [(2, .int c4.1)]) (fun c4 => c4.2) [0, 1, 2, 3] rfl rfl (fun b3 => ?_) (fun c4 => ?_)
  · show fr_V g w _ (zX10_findRow_L26 c2 b3.1 b3.2.1 b3.2.2) _ _ _ _ _
    unfold zX10_findRow_L26
    refine fr_iload_n hg 3 rfl dX10_findRow_26 rfl ?_
    refine fr_iload_n hg 1 rfl dX10_findRow_27 rfl ?_
    refine fr_icmp_ge hg (m := 94) dX10_findRow_28 (by decide) rfl ?_ ?_
    · exact fr_leaf [2] rfl (fun h => h)
    · refine fr_aload_n hg 0 rfl dX10_findRow_31 rfl ?_
      refine fr_iload_n hg 3 rfl dX10_findRow_32 rfl ?_
      refine fr_cv2 hg (mX10_lays b3.2.1) (fr_crV hg (q := 0) mo_X10_257 rfl ⟨_, _, rfl⟩ rfl (by decide) (by decide) (Nat.le_of_ble_eq_true rfl) dX10_findRow_33 rfl) rfl (fun σ5 => ?_)
      refine fr_aload_n hg 0 rfl dX10_findRow_36 rfl ?_
      refine fr_ci1 hg mX10_late (fr_crV hg (q := 0) mo_X10_260 rfl ⟨_, _, rfl⟩ rfl (by decide) (by decide) (Nat.le_of_ble_eq_true rfl) dX10_findRow_37 rfl) rfl (fun r6 => ?_)
      refine fr_istore hg (ls' := [(0, .ref (fr_ad w 0)), (1, .int c2), (2, .int b3.1), (3, .int b3.2.1), (4, .int r6)]) dX10_findRow_40 (by decide) rfl rfl ?_
      refine fr_iload_n hg 2 rfl dX10_findRow_42 rfl ?_
      refine fr_iconst hg (v := (-1)) (by decide) dX10_findRow_43 rfl ?_
      refine fr_icmp_eq hg (m := 53) dX10_findRow_44 (by decide) rfl ?_ ?_
      · refine fr_iload hg 4 rfl dX10_findRow_53 rfl ?_
        refine fr_istore_n hg (ls' := [(0, .ref (fr_ad w 0)), (1, .int c2), (2, .int r6), (3, .int b3.2.1), (4, .int r6)]) dX10_findRow_55 rfl (by decide) rfl rfl ?_
        refine fr_iconst hg (v := 0) (by decide) dX10_findRow_56 rfl ?_
        refine fr_istore hg (ls' := [(0, .ref (fr_ad w 0)), (1, .int c2), (2, .int r6), (3, .int b3.2.1), (4, .int r6), (5, .int 0)]) dX10_findRow_57 (by decide) rfl rfl ?_
        refine fr_lp (fun (b7 : Int32 × fr_St) => [(0, .ref (fr_ad w 0)), (1, .int c2), (2, .int r6), (3, .int b3.2.1), (5, .int b7.1)]) (fun b7 => b7.2) 88 (fun (c8 : fr_St) => [(0, .ref (fr_ad w 0)), (1, .int c2), (2, .int r6), (3, .int b3.2.1)]) (fun c8 => c8) [0, 1, 2, 3, 5] rfl rfl (fun b7 => ?_) (fun c8 => ?_)
        · show fr_V g w _ (zX10_findRow_L59 c2 r6 b3.2.1 b7.1 b7.2) _ _ _ _ _
          unfold zX10_findRow_L59
          refine fr_iload hg 4 rfl dX10_findRow_59 rfl ?_
          refine fr_aload_n hg 0 rfl dX10_findRow_61 rfl ?_
          refine fr_geti hg (q := 0) fo_X10_254 rfl rfl dX10_findRow_62 rfl ?_
          refine fr_icmp_ge hg (m := 88) dX10_findRow_65 (by decide) rfl ?_ ?_
          · exact fr_leaf [0, 1, 2, 3] rfl (fun h => h)
          · refine fr_aload_n hg 0 rfl dX10_findRow_68 rfl ?_
            refine fr_getr hg (q := 0) (q' := 20) fo_X10_68 rfl rfl dX10_findRow_69 rfl ?_
            refine fr_iload hg 4 rfl dX10_findRow_72 rfl ?_
            refine fr_aload_n hg 0 rfl dX10_findRow_74 rfl ?_
            refine fr_getr hg (q := 0) (q' := 19) fo_X10_65 rfl rfl dX10_findRow_75 rfl ?_
            refine fr_iload hg 4 rfl dX10_findRow_78 rfl ?_
            refine fr_iaload hg (q := 19) rfl dX10_findRow_80 rfl (fun x9 => ?_)
            refine fr_iastore hg (q := 20) rfl dX10_findRow_81 rfl (fun σ10 => ?_)
            refine fr_iinc hg 4 (v := b7.1 + 1) (ls' := [(0, .ref (fr_ad w 0)), (1, .int c2), (2, .int r6), (3, .int b3.2.1), (5, .int (b7.1 + 1))]) dX10_findRow_82 rfl rfl (by decide) rfl rfl ?_
            refine fr_goto hg (n := 59) dX10_findRow_85 (by decide) ?_
            exact fr_leaf [0, 1, 2, 3, 4] rfl (fun h => h)
        refine fr_iinc hg 3 (v := b3.2.1 + 1) (ls' := [(0, .ref (fr_ad w 0)), (1, .int c2), (2, .int r6), (3, .int (b3.2.1 + 1))]) dX10_findRow_88 rfl rfl (by decide) rfl rfl ?_
        refine fr_goto hg (n := 26) dX10_findRow_91 (by decide) ?_
        exact fr_leaf [0, 1, 2, 3] rfl (fun h => h)
      · refine fr_iload hg 4 rfl dX10_findRow_47 rfl ?_
        refine fr_iload_n hg 2 rfl dX10_findRow_49 rfl ?_
        refine fr_icmp_ge hg (m := 88) dX10_findRow_50 (by decide) rfl ?_ ?_
        · refine fr_iinc hg 3 (v := b3.2.1 + 1) (ls' := [(0, .ref (fr_ad w 0)), (1, .int c2), (2, .int b3.1), (3, .int (b3.2.1 + 1)), (4, .int r6)]) dX10_findRow_88 rfl rfl (by decide) rfl rfl ?_
          refine fr_goto hg (n := 26) dX10_findRow_91 (by decide) ?_
          exact fr_leaf [0, 1, 2, 3] rfl (fun h => h)
        · refine fr_iload hg 4 rfl dX10_findRow_53 rfl ?_
          refine fr_istore_n hg (ls' := [(0, .ref (fr_ad w 0)), (1, .int c2), (2, .int r6), (3, .int b3.2.1), (4, .int r6)]) dX10_findRow_55 rfl (by decide) rfl rfl ?_
          refine fr_iconst hg (v := 0) (by decide) dX10_findRow_56 rfl ?_
          refine fr_istore hg (ls' := [(0, .ref (fr_ad w 0)), (1, .int c2), (2, .int r6), (3, .int b3.2.1), (4, .int r6), (5, .int 0)]) dX10_findRow_57 (by decide) rfl rfl ?_
          refine fr_lp (fun (b11 : Int32 × fr_St) => [(0, .ref (fr_ad w 0)), (1, .int c2), (2, .int r6), (3, .int b3.2.1), (5, .int b11.1)]) (fun b11 => b11.2) 88 (fun (c12 : fr_St) => [(0, .ref (fr_ad w 0)), (1, .int c2), (2, .int r6), (3, .int b3.2.1)]) (fun c12 => c12) [0, 1, 2, 3, 5] rfl rfl (fun b11 => ?_) (fun c12 => ?_)
          · show fr_V g w _ (zX10_findRow_L59 c2 r6 b3.2.1 b11.1 b11.2) _ _ _ _ _
            unfold zX10_findRow_L59
            refine fr_iload hg 4 rfl dX10_findRow_59 rfl ?_
            refine fr_aload_n hg 0 rfl dX10_findRow_61 rfl ?_
            refine fr_geti hg (q := 0) fo_X10_254 rfl rfl dX10_findRow_62 rfl ?_
            refine fr_icmp_ge hg (m := 88) dX10_findRow_65 (by decide) rfl ?_ ?_
            · exact fr_leaf [0, 1, 2, 3] rfl (fun h => h)
            · refine fr_aload_n hg 0 rfl dX10_findRow_68 rfl ?_
              refine fr_getr hg (q := 0) (q' := 20) fo_X10_68 rfl rfl dX10_findRow_69 rfl ?_
              refine fr_iload hg 4 rfl dX10_findRow_72 rfl ?_
              refine fr_aload_n hg 0 rfl dX10_findRow_74 rfl ?_
              refine fr_getr hg (q := 0) (q' := 19) fo_X10_65 rfl rfl dX10_findRow_75 rfl ?_
              refine fr_iload hg 4 rfl dX10_findRow_78 rfl ?_
              refine fr_iaload hg (q := 19) rfl dX10_findRow_80 rfl (fun x13 => ?_)
              refine fr_iastore hg (q := 20) rfl dX10_findRow_81 rfl (fun σ14 => ?_)
              refine fr_iinc hg 4 (v := b11.1 + 1) (ls' := [(0, .ref (fr_ad w 0)), (1, .int c2), (2, .int r6), (3, .int b3.2.1), (5, .int (b11.1 + 1))]) dX10_findRow_82 rfl rfl (by decide) rfl rfl ?_
              refine fr_goto hg (n := 59) dX10_findRow_85 (by decide) ?_
              exact fr_leaf [0, 1, 2, 3, 4] rfl (fun h => h)
          refine fr_iinc hg 3 (v := b3.2.1 + 1) (ls' := [(0, .ref (fr_ad w 0)), (1, .int c2), (2, .int r6), (3, .int (b3.2.1 + 1))]) dX10_findRow_88 rfl rfl (by decide) rfl rfl ?_
          refine fr_goto hg (n := 26) dX10_findRow_91 (by decide) ?_
          exact fr_leaf [0, 1, 2, 3] rfl (fun h => h)
  refine fr_iload_n hg 0 rfl dX10_findRow_94 rfl ?_
  exact fr_iret hg (rty := .int) rfl dX10_findRow_95 (fun h => h)
noncomputable def zX10_lentOf (σ : fr_St) (a1 : Int32) : Option (Int32 × fr_St) :=
  (zX10_findRow σ).bind (fun p2 => if a1 = (-1) then some (p2.1, p2.2) else if p2.2 0 27 ≤ a1 then some ((-1), p2.2) else (fr_al 7 p2.2 20 a1).bind (fun x3 => some (x3, p2.2)))
set_option maxRecDepth 100000 in
set_option maxHeartbeats 4000000 in
theorem mX10_lentOf (a1 : Int32) : fr_MI2 yX10_lentOf cX10_lentOf 3 .int 3 69 fr_shM (fun w => [.ref (fr_ad w 0), .int a1]) (fun σ => zX10_lentOf σ a1) := by
  refine fr_mkI2 (by decide) (fun w => Nat.le_of_ble_eq_true rfl) (fun g w σ hg => ?_)
  show fr_V g w 3 (zX10_lentOf σ a1) _ 0 [(0, .ref (fr_ad w 0)), (1, .int a1)] [] σ
  unfold zX10_lentOf
  refine fr_aload_n hg 0 rfl dX10_lentOf_0 rfl ?_
  refine fr_ci2 hg mX10_findRow (fr_crV hg (q := 0) mo_X10_263 rfl ⟨_, _, rfl⟩ rfl (by decide) (by decide) (Nat.le_of_ble_eq_true rfl) dX10_lentOf_1 rfl) rfl (fun p2 => ?_)
  refine fr_istore_n hg (ls' := [(0, .ref (fr_ad w 0)), (1, .int a1), (2, .int p2.1)]) dX10_lentOf_4 rfl (by decide) rfl rfl ?_
  refine fr_iload_n hg 1 rfl dX10_lentOf_5 rfl ?_
  refine fr_iconst hg (v := (-1)) (by decide) dX10_lentOf_6 rfl ?_
  refine fr_icmp_ne hg (m := 14) dX10_lentOf_7 (by decide) rfl ?_ ?_
  · refine fr_iload_n hg 1 rfl dX10_lentOf_14 rfl ?_
    refine fr_aload_n hg 0 rfl dX10_lentOf_15 rfl ?_
    refine fr_geti hg (q := 0) fo_X10_254 rfl rfl dX10_lentOf_16 rfl ?_
    refine fr_icmp_ge hg (m := 31) dX10_lentOf_19 (by decide) rfl ?_ ?_
    · refine fr_iconst hg (v := (-1)) (by decide) dX10_lentOf_31 rfl ?_
      exact fr_iret hg (rty := .int) rfl dX10_lentOf_32 (fun h => h)
    · refine fr_aload_n hg 0 rfl dX10_lentOf_22 rfl ?_
      refine fr_getr hg (q := 0) (q' := 20) fo_X10_68 rfl rfl dX10_lentOf_23 rfl ?_
      refine fr_iload_n hg 1 rfl dX10_lentOf_26 rfl ?_
      refine fr_iaload hg (q := 20) rfl dX10_lentOf_27 rfl (fun x3 => ?_)
      refine fr_goto hg (n := 32) dX10_lentOf_28 (by decide) ?_
      exact fr_iret hg (rty := .int) rfl dX10_lentOf_32 (fun h => h)
  · refine fr_iload_n hg 2 rfl dX10_lentOf_10 rfl ?_
    refine fr_goto hg (n := 32) dX10_lentOf_11 (by decide) ?_
    exact fr_iret hg (rty := .int) rfl dX10_lentOf_32 (fun h => h)
noncomputable def zX10_lent (σ : fr_St) (a1 : Int32) : Option (Int32 × fr_St) :=
  if zX10_in a1.toInt64 (-1) 6 = 0 then some ((-2), σ) else (zX10_lentOf σ a1).bind (fun p2 => some (p2.1, p2.2))
set_option maxRecDepth 100000 in
set_option maxHeartbeats 4000000 in
theorem mX10_lent (a1 : Int32) : fr_MI2 yX10_lent cX10_lent 2 .int 4 91 fr_shM (fun w => [.ref (fr_ad w 0), .int a1]) (fun σ => zX10_lent σ a1) := by
  refine fr_mkI2 (by decide) (fun w => Nat.le_of_ble_eq_true rfl) (fun g w σ hg => ?_)
  show fr_V g w 2 (zX10_lent σ a1) _ 0 [(0, .ref (fr_ad w 0)), (1, .int a1)] [] σ
  unfold zX10_lent
  refine fr_iload_n hg 1 rfl dX10_lent_0 rfl ?_
  refine fr_i2l hg dX10_lent_1 rfl ?_
  refine fr_ldc2 hg cl_X10_202 dX10_lent_2 rfl ?_
  refine fr_ldc2 hg cl_X10_266 dX10_lent_5 rfl ?_
  refine fr_ci0 hg (mX10_in a1.toInt64 (-1) 6) (fr_crS hg mo_X10_73 rfl (by decide) (by decide) (Nat.le_of_ble_eq_true rfl) dX10_lent_8 rfl) rfl ?_
  refine fr_if_eq hg (m := 22) dX10_lent_11 (by decide) rfl ?_ ?_
  · refine fr_bipush hg (v := (-2)) (by decide) dX10_lent_22 rfl ?_
    exact fr_iret hg (rty := .int) rfl dX10_lent_24 (fun h => h)
  · refine fr_aload_n hg 0 rfl dX10_lent_14 rfl ?_
    refine fr_iload_n hg 1 rfl dX10_lent_15 rfl ?_
    refine fr_ci2 hg (mX10_lentOf a1) (fr_crV hg (q := 0) mo_X10_268 rfl ⟨_, _, rfl⟩ rfl (by decide) (by decide) (Nat.le_of_ble_eq_true rfl) dX10_lent_16 rfl) rfl (fun p2 => ?_)
    refine fr_goto hg (n := 24) dX10_lent_19 (by decide) ?_
    exact fr_iret hg (rty := .int) rfl dX10_lent_24 (fun h => h)
noncomputable def zX10_facedNow_L17 (σ : fr_St) (k3 : Int32) (v1 : Int32) (v2 : Int32) (v4 : Int32) : Option ((Int32 × Int32 × Int32) ⊕ (Int32 × Int32)) :=
  if σ 0 12 ≤ v4 then some (.inr (v1, v2)) else (fr_al 32 σ 8 ((8 * k3) + v4)).bind (fun x1 => (fr_al 32 σ 8 (((8 * k3) + v4) - 1)).bind (fun x2 => if v1 = 0 then (some (if x1 - x2 ≤ 0 then 0 else 1) : Option (Int32)).bind (fun t3 => if v2 = 0 then if 0 ≤ x1 - x2 then some (.inl (t3, 0, v4 + 1)) else some (.inl (t3, 1, v4 + 1)) else some (.inl (t3, 1, v4 + 1))) else if v2 = 0 then if 0 ≤ x1 - x2 then some (.inl (1, 0, v4 + 1)) else some (.inl (1, 1, v4 + 1)) else some (.inl (1, 1, v4 + 1))))
noncomputable def zX10_facedNow_L6 (σ : fr_St) (v1 : Int32) (v2 : Int32) (v3 : Int32) : Option ((Int32 × Int32 × Int32) ⊕ (Int32 × Int32)) :=
  if σ 0 13 ≤ v3 then some (.inr (v1, v2)) else (fr_loop (fun (b1 : Int32 × Int32 × Int32) => zX10_facedNow_L17 σ v3 b1.1 b1.2.1 b1.2.2) fr_fu (v1, v2, 1)).bind (fun (c2 : Int32 × Int32) => some (.inl (c2.1, c2.2, v3 + 1)))
noncomputable def zX10_facedNow (σ : fr_St)  : Option (Int32) :=
  (fr_loop (fun (b1 : Int32 × Int32 × Int32) => zX10_facedNow_L6 σ b1.1 b1.2.1 b1.2.2) fr_fu (0, 0, 0)).bind (fun (c2 : Int32 × Int32) => if c2.1 = c2.2 then some (-1) else if c2.1 = 0 then some 1 else some 0)
set_option maxRecDepth 100000 in
set_option maxHeartbeats 4000000 in
theorem mX10_facedNow  : fr_MI1 yX10_facedNow cX10_facedNow 6 .int 0 0 fr_shM (fun w => [.ref (fr_ad w 0)]) (fun σ => zX10_facedNow σ) := by
  refine fr_mkI1 (by decide) (fun w => Nat.le_of_ble_eq_true rfl) (fun g w σ hg => ?_)
  show fr_V g w 6 (zX10_facedNow σ) _ 0 [(0, .ref (fr_ad w 0))] [] σ
  unfold zX10_facedNow
  refine fr_iconst hg (v := 0) (by decide) dX10_facedNow_0 rfl ?_
  refine fr_istore_n hg (ls' := [(0, .ref (fr_ad w 0)), (1, .int 0)]) dX10_facedNow_1 rfl (by decide) rfl rfl ?_
  refine fr_iconst hg (v := 0) (by decide) dX10_facedNow_2 rfl ?_
  refine fr_istore_n hg (ls' := [(0, .ref (fr_ad w 0)), (1, .int 0), (2, .int 0)]) dX10_facedNow_3 rfl (by decide) rfl rfl ?_
  refine fr_iconst hg (v := 0) (by decide) dX10_facedNow_4 rfl ?_
  refine fr_istore_n hg (ls' := [(0, .ref (fr_ad w 0)), (1, .int 0), (2, .int 0), (3, .int 0)]) dX10_facedNow_5 rfl (by decide) rfl rfl ?_
  refine fr_lp (fun (b1 : Int32 × Int32 × Int32) => [(0, .ref (fr_ad w 0)), (1, .int b1.1), (2, .int b1.2.1), (3, .int b1.2.2)]) (fun b1 => σ) 97 (fun (c2 : Int32 × Int32) => [(1, .int c2.1), (2, .int c2.2)]) (fun c2 => σ) [0, 1, 2, 3] rfl rfl (fun b1 => ?_) (fun c2 => ?_)
  · show fr_V g w _ (zX10_facedNow_L6 σ b1.1 b1.2.1 b1.2.2) _ _ _ _ _
    unfold zX10_facedNow_L6
    refine fr_iload_n hg 3 rfl dX10_facedNow_6 rfl ?_
    refine fr_aload_n hg 0 rfl dX10_facedNow_7 rfl ?_
    refine fr_geti hg (q := 0) fo_X10_113 rfl rfl dX10_facedNow_8 rfl ?_
    refine fr_icmp_ge hg (m := 97) dX10_facedNow_11 (by decide) rfl ?_ ?_
    · exact fr_leaf [1, 2] rfl (fun h => h)
    · refine fr_iconst hg (v := 1) (by decide) dX10_facedNow_14 rfl ?_
      refine fr_istore hg (ls' := [(0, .ref (fr_ad w 0)), (1, .int b1.1), (2, .int b1.2.1), (3, .int b1.2.2), (4, .int 1)]) dX10_facedNow_15 (by decide) rfl rfl ?_
      refine fr_lp (fun (b3 : Int32 × Int32 × Int32) => [(0, .ref (fr_ad w 0)), (1, .int b3.1), (2, .int b3.2.1), (3, .int b1.2.2), (4, .int b3.2.2)]) (fun b3 => σ) 91 (fun (c4 : Int32 × Int32) => [(0, .ref (fr_ad w 0)), (1, .int c4.1), (2, .int c4.2), (3, .int b1.2.2)]) (fun c4 => σ) [0, 1, 2, 3, 4] rfl rfl (fun b3 => ?_) (fun c4 => ?_)
      · show fr_V g w _ (zX10_facedNow_L17 σ b1.2.2 b3.1 b3.2.1 b3.2.2) _ _ _ _ _
        unfold zX10_facedNow_L17
        refine fr_iload hg 4 rfl dX10_facedNow_17 rfl ?_
        refine fr_aload_n hg 0 rfl dX10_facedNow_19 rfl ?_
        refine fr_geti hg (q := 0) fo_X10_110 rfl rfl dX10_facedNow_20 rfl ?_
        refine fr_icmp_ge hg (m := 91) dX10_facedNow_23 (by decide) rfl ?_ ?_
        · exact fr_leaf [0, 1, 2, 3] rfl (fun h => h)
        · refine fr_aload_n hg 0 rfl dX10_facedNow_26 rfl ?_
          refine fr_getr hg (q := 0) (q' := 8) fo_X10_32 rfl rfl dX10_facedNow_27 rfl ?_
          refine fr_bipush hg (v := 8) (by decide) dX10_facedNow_30 rfl ?_
          refine fr_iload_n hg 3 rfl dX10_facedNow_32 rfl ?_
          refine fr_imul hg dX10_facedNow_33 rfl ?_
          refine fr_iload hg 4 rfl dX10_facedNow_34 rfl ?_
          refine fr_iadd hg dX10_facedNow_36 rfl ?_
          refine fr_iaload hg (q := 8) rfl dX10_facedNow_37 rfl (fun x5 => ?_)
          refine fr_aload_n hg 0 rfl dX10_facedNow_38 rfl ?_
          refine fr_getr hg (q := 0) (q' := 8) fo_X10_32 rfl rfl dX10_facedNow_39 rfl ?_
          refine fr_bipush hg (v := 8) (by decide) dX10_facedNow_42 rfl ?_
          refine fr_iload_n hg 3 rfl dX10_facedNow_44 rfl ?_
          refine fr_imul hg dX10_facedNow_45 rfl ?_
          refine fr_iload hg 4 rfl dX10_facedNow_46 rfl ?_
          refine fr_iadd hg dX10_facedNow_48 rfl ?_
          refine fr_iconst hg (v := 1) (by decide) dX10_facedNow_49 rfl ?_
          refine fr_isub hg dX10_facedNow_50 rfl ?_
          refine fr_iaload hg (q := 8) rfl dX10_facedNow_51 rfl (fun x6 => ?_)
          refine fr_isub hg dX10_facedNow_52 rfl ?_
          refine fr_istore hg (ls' := [(0, .ref (fr_ad w 0)), (1, .int b3.1), (2, .int b3.2.1), (3, .int b1.2.2), (4, .int b3.2.2), (5, .int (x5 - x6))]) dX10_facedNow_53 (by decide) rfl rfl ?_
          refine fr_iload_n hg 1 rfl dX10_facedNow_55 rfl ?_
          refine fr_if_ne hg (m := 64) dX10_facedNow_56 (by decide) rfl ?_ ?_
          · refine fr_iconst hg (v := 1) (by decide) dX10_facedNow_64 rfl ?_
            refine fr_goto hg (n := 69) dX10_facedNow_65 (by decide) ?_
            refine fr_istore_n hg (ls' := [(0, .ref (fr_ad w 0)), (1, .int 1), (2, .int b3.2.1), (3, .int b1.2.2), (4, .int b3.2.2), (5, .int (x5 - x6))]) dX10_facedNow_69 rfl (by decide) rfl rfl ?_
            refine fr_iload_n hg 2 rfl dX10_facedNow_70 rfl ?_
            refine fr_if_ne hg (m := 79) dX10_facedNow_71 (by decide) rfl ?_ ?_
            · refine fr_iconst hg (v := 1) (by decide) dX10_facedNow_79 rfl ?_
              refine fr_goto hg (n := 84) dX10_facedNow_80 (by decide) ?_
              refine fr_istore_n hg (ls' := [(0, .ref (fr_ad w 0)), (1, .int 1), (2, .int 1), (3, .int b1.2.2), (4, .int b3.2.2), (5, .int (x5 - x6))]) dX10_facedNow_84 rfl (by decide) rfl rfl ?_
              refine fr_iinc hg 4 (v := b3.2.2 + 1) (ls' := [(0, .ref (fr_ad w 0)), (1, .int 1), (2, .int 1), (3, .int b1.2.2), (4, .int (b3.2.2 + 1)), (5, .int (x5 - x6))]) dX10_facedNow_85 rfl rfl (by decide) rfl rfl ?_
              refine fr_goto hg (n := 17) dX10_facedNow_88 (by decide) ?_
              exact fr_leaf [0, 1, 2, 3, 4] rfl (fun h => h)
            · refine fr_iload hg 5 rfl dX10_facedNow_74 rfl ?_
              refine fr_if_ge hg (m := 83) dX10_facedNow_76 (by decide) rfl ?_ ?_
              · refine fr_iconst hg (v := 0) (by decide) dX10_facedNow_83 rfl ?_
                refine fr_istore_n hg (ls' := [(0, .ref (fr_ad w 0)), (1, .int 1), (2, .int 0), (3, .int b1.2.2), (4, .int b3.2.2), (5, .int (x5 - x6))]) dX10_facedNow_84 rfl (by decide) rfl rfl ?_
                refine fr_iinc hg 4 (v := b3.2.2 + 1) (ls' := [(0, .ref (fr_ad w 0)), (1, .int 1), (2, .int 0), (3, .int b1.2.2), (4, .int (b3.2.2 + 1)), (5, .int (x5 - x6))]) dX10_facedNow_85 rfl rfl (by decide) rfl rfl ?_
                refine fr_goto hg (n := 17) dX10_facedNow_88 (by decide) ?_
                exact fr_leaf [0, 1, 2, 3, 4] rfl (fun h => h)
              · refine fr_iconst hg (v := 1) (by decide) dX10_facedNow_79 rfl ?_
                refine fr_goto hg (n := 84) dX10_facedNow_80 (by decide) ?_
                refine fr_istore_n hg (ls' := [(0, .ref (fr_ad w 0)), (1, .int 1), (2, .int 1), (3, .int b1.2.2), (4, .int b3.2.2), (5, .int (x5 - x6))]) dX10_facedNow_84 rfl (by decide) rfl rfl ?_
                refine fr_iinc hg 4 (v := b3.2.2 + 1) (ls' := [(0, .ref (fr_ad w 0)), (1, .int 1), (2, .int 1), (3, .int b1.2.2), (4, .int (b3.2.2 + 1)), (5, .int (x5 - x6))]) dX10_facedNow_85 rfl rfl (by decide) rfl rfl ?_
                refine fr_goto hg (n := 17) dX10_facedNow_88 (by decide) ?_
                exact fr_leaf [0, 1, 2, 3, 4] rfl (fun h => h)
          · refine fr_iload hg 5 rfl dX10_facedNow_59 rfl ?_
            refine fr_join (m := 69) (lj := fun (t7 : Int32) => [(0, .ref (fr_ad w 0)), (2, .int b3.2.1), (3, .int b1.2.2), (4, .int b3.2.2), (5, .int (x5 - x6))]) (sj := fun t7 => [.int t7]) (wj := fun t7 => σ) ?_ (fun t7 => ?_)
            · refine fr_some_ite ?_
              refine fr_if_le hg (m := 68) dX10_facedNow_61 (by decide) rfl ?_ ?_
              · refine fr_iconst hg (v := 0) (by decide) dX10_facedNow_68 rfl ?_
                exact fr_leaf [0, 2, 3, 4, 5] rfl (fun h => h)
              · refine fr_iconst hg (v := 1) (by decide) dX10_facedNow_64 rfl ?_
                refine fr_goto hg (n := 69) dX10_facedNow_65 (by decide) ?_
                exact fr_leaf [0, 2, 3, 4, 5] rfl (fun h => h)
            refine fr_istore_n hg (ls' := [(0, .ref (fr_ad w 0)), (1, .int t7), (2, .int b3.2.1), (3, .int b1.2.2), (4, .int b3.2.2), (5, .int (x5 - x6))]) dX10_facedNow_69 rfl (by decide) rfl rfl ?_
            refine fr_iload_n hg 2 rfl dX10_facedNow_70 rfl ?_
            refine fr_if_ne hg (m := 79) dX10_facedNow_71 (by decide) rfl ?_ ?_
            · refine fr_iconst hg (v := 1) (by decide) dX10_facedNow_79 rfl ?_
              refine fr_goto hg (n := 84) dX10_facedNow_80 (by decide) ?_
              refine fr_istore_n hg (ls' := [(0, .ref (fr_ad w 0)), (1, .int t7), (2, .int 1), (3, .int b1.2.2), (4, .int b3.2.2), (5, .int (x5 - x6))]) dX10_facedNow_84 rfl (by decide) rfl rfl ?_
              refine fr_iinc hg 4 (v := b3.2.2 + 1) (ls' := [(0, .ref (fr_ad w 0)), (1, .int t7), (2, .int 1), (3, .int b1.2.2), (4, .int (b3.2.2 + 1)), (5, .int (x5 - x6))]) dX10_facedNow_85 rfl rfl (by decide) rfl rfl ?_
              refine fr_goto hg (n := 17) dX10_facedNow_88 (by decide) ?_
              exact fr_leaf [0, 1, 2, 3, 4] rfl (fun h => h)
            · refine fr_iload hg 5 rfl dX10_facedNow_74 rfl ?_
              refine fr_if_ge hg (m := 83) dX10_facedNow_76 (by decide) rfl ?_ ?_
              · refine fr_iconst hg (v := 0) (by decide) dX10_facedNow_83 rfl ?_
                refine fr_istore_n hg (ls' := [(0, .ref (fr_ad w 0)), (1, .int t7), (2, .int 0), (3, .int b1.2.2), (4, .int b3.2.2), (5, .int (x5 - x6))]) dX10_facedNow_84 rfl (by decide) rfl rfl ?_
                refine fr_iinc hg 4 (v := b3.2.2 + 1) (ls' := [(0, .ref (fr_ad w 0)), (1, .int t7), (2, .int 0), (3, .int b1.2.2), (4, .int (b3.2.2 + 1)), (5, .int (x5 - x6))]) dX10_facedNow_85 rfl rfl (by decide) rfl rfl ?_
                refine fr_goto hg (n := 17) dX10_facedNow_88 (by decide) ?_
                exact fr_leaf [0, 1, 2, 3, 4] rfl (fun h => h)
              · refine fr_iconst hg (v := 1) (by decide) dX10_facedNow_79 rfl ?_
                refine fr_goto hg (n := 84) dX10_facedNow_80 (by decide) ?_
                refine fr_istore_n hg (ls' := [(0, .ref (fr_ad w 0)), (1, .int t7), (2, .int 1), (3, .int b1.2.2), (4, .int b3.2.2), (5, .int (x5 - x6))]) dX10_facedNow_84 rfl (by decide) rfl rfl ?_
                refine fr_iinc hg 4 (v := b3.2.2 + 1) (ls' := [(0, .ref (fr_ad w 0)), (1, .int t7), (2, .int 1), (3, .int b1.2.2), (4, .int (b3.2.2 + 1)), (5, .int (x5 - x6))]) dX10_facedNow_85 rfl rfl (by decide) rfl rfl ?_
                refine fr_goto hg (n := 17) dX10_facedNow_88 (by decide) ?_
                exact fr_leaf [0, 1, 2, 3, 4] rfl (fun h => h)
      refine fr_iinc hg 3 (v := b1.2.2 + 1) (ls' := [(0, .ref (fr_ad w 0)), (1, .int c4.1), (2, .int c4.2), (3, .int (b1.2.2 + 1))]) dX10_facedNow_91 rfl rfl (by decide) rfl rfl ?_
      refine fr_goto hg (n := 6) dX10_facedNow_94 (by decide) ?_
      exact fr_leaf [0, 1, 2, 3] rfl (fun h => h)
  refine fr_iload_n hg 0 rfl dX10_facedNow_97 rfl ?_
  refine fr_iload_n hg 1 rfl dX10_facedNow_98 rfl ?_
  refine fr_icmp_ne hg (m := 106) dX10_facedNow_99 (by decide) rfl ?_ ?_
  · refine fr_iload_n hg 0 rfl dX10_facedNow_106 rfl ?_
    refine fr_if_eq hg (m := 114) dX10_facedNow_107 (by decide) rfl ?_ ?_
    · refine fr_iconst hg (v := 1) (by decide) dX10_facedNow_114 rfl ?_
      exact fr_iret hg (rty := .int) rfl dX10_facedNow_115 (fun h => h)
    · refine fr_iconst hg (v := 0) (by decide) dX10_facedNow_110 rfl ?_
      refine fr_goto hg (n := 115) dX10_facedNow_111 (by decide) ?_
      exact fr_iret hg (rty := .int) rfl dX10_facedNow_115 (fun h => h)
  · refine fr_iconst hg (v := (-1)) (by decide) dX10_facedNow_102 rfl ?_
    refine fr_goto hg (n := 115) dX10_facedNow_103 (by decide) ?_
    exact fr_iret hg (rty := .int) rfl dX10_facedNow_115 (fun h => h)
