noncomputable def zX10_meltsOf_L36 (σ : fr_St) (k3 : Int32) (k4 : Int32) (k5 : Int32) (k6 : Int32) (v8 : Int32) (v9 : Int32) : Option ((Int32 × Int32) ⊕ (Int32)) :=
  if 32 ≤ v9 then some (.inr v8) else (fr_al 32 σ 9 v9).bind (fun x1 => if x1 ≤ 0 then some (.inl (v8, v9 + 1)) else if zX10_isIn k6 v9 = 0 then if v8 = (-1) then some (.inl (v9, v9 + 1)) else (fr_al 32 σ 9 v9).bind (fun x2 => (fr_al 32 σ 9 v8).bind (fun x3 => if x3 ≤ x2 then some (.inl (v8, v9 + 1)) else some (.inl (v9, v9 + 1)))) else some (.inl (v8, v9 + 1)))
noncomputable def zX10_meltsOf_L25 (σ : fr_St) (k3 : Int32) (v4 : Int32) (v5 : Int32) (v6 : Int32) (v7 : Int32) : Option ((Int32 × Int32 × Int32 × Int32) ⊕ (Int32)) :=
  if v7 = 0 then some (.inr v5) else (fr_loop (fun (b1 : Int32 × Int32) => zX10_meltsOf_L36 σ k3 v4 v5 v6 b1.1 b1.2) fr_fu ((-1), 0)).bind (fun (c2 : Int32) => (if c2 = (-1) then some 0 else (fr_al 32 σ 9 c2).bind (fun x7 => (fr_dv ((x7 + k3) - 1) k3).bind (fun x8 => some x8)) : Option (Int32)).bind (fun t6 => if c2 = (-1) then (some (if (0 : Int32) = 0 then 0 else (1 <<< (c2 &&& 31))) : Option (Int32)).bind (fun t9 => (some (if (0 : Int32) = 0 then 0 else t6) : Option (Int32)).bind (fun t10 => if (0 : Int32) = 0 then some (.inl (v4 - t10, v5 + 0, v6 ||| t9, 0)) else some (.inl (v4 - t10, v5 + 1, v6 ||| t9, 0)))) else (some (if v4 < t6 then 0 else 1) : Option (Int32)).bind (fun t11 => (some (if t11 = 0 then 0 else (1 <<< (c2 &&& 31))) : Option (Int32)).bind (fun t12 => (some (if t11 = 0 then 0 else t6) : Option (Int32)).bind (fun t13 => if t11 = 0 then some (.inl (v4 - t13, v5 + 0, v6 ||| t12, t11)) else some (.inl (v4 - t13, v5 + 1, v6 ||| t12, t11)))))))
noncomputable def zX10_meltsOf (σ : fr_St) (a1 : Int32) (a2 : Int32) : Option (Int32) :=
  (some (if a1 / 10 ≤ 0 then 0 else 1) : Option (Int32)).bind (fun t1 => (fr_loop (fun (b2 : Int32 × Int32 × Int32 × Int32) => zX10_meltsOf_L25 σ (a1 / 10) b2.1 b2.2.1 b2.2.2.1 b2.2.2.2) fr_fu (a2, 0, 0, t1)).bind (fun (c3 : Int32) => some c3))
set_option maxRecDepth 100000 in
set_option maxHeartbeats 4000000 in
theorem mX10_meltsOf (a1 : Int32) (a2 : Int32) : fr_MI1 yX10_meltsOf cX10_meltsOf 10 .int 1 21 fr_shM (fun w => [.ref (fr_ad w 0), .int a1, .int a2]) (fun σ => zX10_meltsOf σ a1 a2) := by
  refine fr_mkI1 (by decide) (fun w => Nat.le_of_ble_eq_true rfl) (fun g w σ hg => ?_)
  show fr_V g w 10 (zX10_meltsOf σ a1 a2) _ 0 [(0, .ref (fr_ad w 0)), (1, .int a1), (2, .int a2)] [] σ
  unfold zX10_meltsOf
  refine fr_iload_n hg 1 rfl dX10_meltsOf_0 rfl ?_
  refine fr_bipush hg (v := 10) (by decide) dX10_meltsOf_1 rfl ?_
  refine fr_idiv0 hg (by decide) dX10_meltsOf_3 rfl ?_
  refine fr_istore_n hg (ls' := [(0, .ref (fr_ad w 0)), (1, .int a1), (2, .int a2), (3, .int (a1 / 10))]) dX10_meltsOf_4 rfl (by decide) rfl rfl ?_
  refine fr_iload_n hg 2 rfl dX10_meltsOf_5 rfl ?_
  refine fr_istore hg (ls' := [(0, .ref (fr_ad w 0)), (1, .int a1), (2, .int a2), (3, .int (a1 / 10)), (4, .int a2)]) dX10_meltsOf_6 (by decide) rfl rfl ?_
  refine fr_iconst hg (v := 0) (by decide) dX10_meltsOf_8 rfl ?_
  refine fr_istore hg (ls' := [(0, .ref (fr_ad w 0)), (1, .int a1), (2, .int a2), (3, .int (a1 / 10)), (4, .int a2), (5, .int 0)]) dX10_meltsOf_9 (by decide) rfl rfl ?_
  refine fr_iconst hg (v := 0) (by decide) dX10_meltsOf_11 rfl ?_
  refine fr_istore hg (ls' := [(0, .ref (fr_ad w 0)), (1, .int a1), (2, .int a2), (3, .int (a1 / 10)), (4, .int a2), (5, .int 0), (6, .int 0)]) dX10_meltsOf_12 (by decide) rfl rfl ?_
  refine fr_iload_n hg 3 rfl dX10_meltsOf_14 rfl ?_
  refine fr_join (m := 23) (lj := fun (t1 : Int32) => [(0, .ref (fr_ad w 0)), (3, .int (a1 / 10)), (4, .int a2), (5, .int 0), (6, .int 0)]) (sj := fun t1 => [.int t1]) (wj := fun t1 => σ) ?_ (fun t1 => ?_)
  · refine fr_some_ite ?_
    refine fr_if_le hg (m := 22) dX10_meltsOf_15 (by decide) rfl ?_ ?_
    · refine fr_iconst hg (v := 0) (by decide) dX10_meltsOf_22 rfl ?_
      exact fr_leaf [0, 3, 4, 5, 6] rfl (fun h => h)
    · refine fr_iconst hg (v := 1) (by decide) dX10_meltsOf_18 rfl ?_
      refine fr_goto hg (n := 23) dX10_meltsOf_19 (by decide) ?_
      exact fr_leaf [0, 3, 4, 5, 6] rfl (fun h => h)
  refine fr_istore hg (ls' := [(0, .ref (fr_ad w 0)), (3, .int (a1 / 10)), (4, .int a2), (5, .int 0), (6, .int 0), (7, .int t1)]) dX10_meltsOf_23 (by decide) rfl rfl ?_
  refine fr_lp (fun (b2 : Int32 × Int32 × Int32 × Int32) => [(0, .ref (fr_ad w 0)), (3, .int (a1 / 10)), (4, .int b2.1), (5, .int b2.2.1), (6, .int b2.2.2.1), (7, .int b2.2.2.2)]) (fun b2 => σ) 198 (fun (c3 : Int32) => [(5, .int c3)]) (fun c3 => σ) [0, 1, 2, 3, 4, 5] rfl rfl (fun b2 => ?_) (fun c3 => ?_)
  · show fr_V g w _ (zX10_meltsOf_L25 σ (a1 / 10) b2.1 b2.2.1 b2.2.2.1 b2.2.2.2) _ _ _ _ _
    unfold zX10_meltsOf_L25
    refine fr_iload hg 5 rfl dX10_meltsOf_25 rfl ?_
    refine fr_if_eq hg (m := 198) dX10_meltsOf_27 (by decide) rfl ?_ ?_
    · exact fr_leaf [3] rfl (fun h => h)
    · refine fr_iconst hg (v := (-1)) (by decide) dX10_meltsOf_30 rfl ?_
      refine fr_istore hg (ls' := [(0, .ref (fr_ad w 0)), (3, .int (a1 / 10)), (4, .int b2.1), (5, .int b2.2.1), (6, .int b2.2.2.1), (7, .int b2.2.2.2), (8, .int (-1))]) dX10_meltsOf_31 (by decide) rfl rfl ?_
      refine fr_iconst hg (v := 0) (by decide) dX10_meltsOf_33 rfl ?_
      refine fr_istore hg (ls' := [(0, .ref (fr_ad w 0)), (3, .int (a1 / 10)), (4, .int b2.1), (5, .int b2.2.1), (6, .int b2.2.2.1), (7, .int b2.2.2.2), (8, .int (-1)), (9, .int 0)]) dX10_meltsOf_34 (by decide) rfl rfl ?_
      refine fr_lp (fun (b4 : Int32 × Int32) => [(0, .ref (fr_ad w 0)), (3, .int (a1 / 10)), (4, .int b2.1), (5, .int b2.2.1), (6, .int b2.2.2.1), (8, .int b4.1), (9, .int b4.2)]) (fun b4 => σ) 101 (fun (c5 : Int32) => [(0, .ref (fr_ad w 0)), (3, .int (a1 / 10)), (4, .int b2.1), (5, .int b2.2.1), (6, .int b2.2.2.1), (8, .int c5)]) (fun c5 => σ) [0, 1, 2, 3, 4, 6, 7] rfl rfl (fun b4 => ?_) (fun c5 => ?_)
      · show fr_V g w _ (zX10_meltsOf_L36 σ (a1 / 10) b2.1 b2.2.1 b2.2.2.1 b4.1 b4.2) _ _ _ _ _
        unfold zX10_meltsOf_L36
        refine fr_iload hg 6 rfl dX10_meltsOf_36 rfl ?_
        refine fr_bipush hg (v := 32) (by decide) dX10_meltsOf_38 rfl ?_
        refine fr_icmp_ge hg (m := 101) dX10_meltsOf_40 (by decide) rfl ?_ ?_
        · exact fr_leaf [0, 1, 2, 3, 4, 5] rfl (fun h => h)
        · refine fr_aload_n hg 0 rfl dX10_meltsOf_43 rfl ?_
          refine fr_getr hg (q := 0) (q' := 9) fo_X10_35 rfl rfl dX10_meltsOf_44 rfl ?_
          refine fr_iload hg 6 rfl dX10_meltsOf_47 rfl ?_
          refine fr_iaload hg (q := 9) rfl dX10_meltsOf_49 rfl (fun x6 => ?_)
          refine fr_if_le hg (m := 91) dX10_meltsOf_50 (by decide) rfl ?_ ?_
          · refine fr_iload hg 5 rfl dX10_meltsOf_91 rfl ?_
            refine fr_istore hg (ls' := [(0, .ref (fr_ad w 0)), (3, .int (a1 / 10)), (4, .int b2.1), (5, .int b2.2.1), (6, .int b2.2.2.1), (8, .int b4.1), (9, .int b4.2)]) dX10_meltsOf_93 (by decide) rfl rfl ?_
            refine fr_iinc hg 6 (v := b4.2 + 1) (ls' := [(0, .ref (fr_ad w 0)), (3, .int (a1 / 10)), (4, .int b2.1), (5, .int b2.2.1), (6, .int b2.2.2.1), (8, .int b4.1), (9, .int (b4.2 + 1))]) dX10_meltsOf_95 rfl rfl (by decide) rfl rfl ?_
            refine fr_goto hg (n := 36) dX10_meltsOf_98 (by decide) ?_
            exact fr_leaf [0, 1, 2, 3, 4, 5, 6] rfl (fun h => h)
          · refine fr_iload hg 4 rfl dX10_meltsOf_53 rfl ?_
            refine fr_iload hg 6 rfl dX10_meltsOf_55 rfl ?_
            refine fr_ci0 hg (mX10_isIn b2.2.2.1 b4.2) (fr_crS hg mo_X10_195 rfl (by decide) (by decide) (Nat.le_of_ble_eq_true rfl) dX10_meltsOf_57 rfl) rfl ?_
            refine fr_if_ne hg (m := 91) dX10_meltsOf_60 (by decide) rfl ?_ ?_
            · refine fr_iload hg 5 rfl dX10_meltsOf_91 rfl ?_
              refine fr_istore hg (ls' := [(0, .ref (fr_ad w 0)), (3, .int (a1 / 10)), (4, .int b2.1), (5, .int b2.2.1), (6, .int b2.2.2.1), (8, .int b4.1), (9, .int b4.2)]) dX10_meltsOf_93 (by decide) rfl rfl ?_
              refine fr_iinc hg 6 (v := b4.2 + 1) (ls' := [(0, .ref (fr_ad w 0)), (3, .int (a1 / 10)), (4, .int b2.1), (5, .int b2.2.1), (6, .int b2.2.2.1), (8, .int b4.1), (9, .int (b4.2 + 1))]) dX10_meltsOf_95 rfl rfl (by decide) rfl rfl ?_
              refine fr_goto hg (n := 36) dX10_meltsOf_98 (by decide) ?_
              exact fr_leaf [0, 1, 2, 3, 4, 5, 6] rfl (fun h => h)
            · refine fr_iload hg 5 rfl dX10_meltsOf_63 rfl ?_
              refine fr_iconst hg (v := (-1)) (by decide) dX10_meltsOf_65 rfl ?_
              refine fr_icmp_eq hg (m := 86) dX10_meltsOf_66 (by decide) rfl ?_ ?_
              · refine fr_iload hg 6 rfl dX10_meltsOf_86 rfl ?_
                refine fr_goto hg (n := 93) dX10_meltsOf_88 (by decide) ?_
                refine fr_istore hg (ls' := [(0, .ref (fr_ad w 0)), (3, .int (a1 / 10)), (4, .int b2.1), (5, .int b2.2.1), (6, .int b2.2.2.1), (8, .int b4.2), (9, .int b4.2)]) dX10_meltsOf_93 (by decide) rfl rfl ?_
                refine fr_iinc hg 6 (v := b4.2 + 1) (ls' := [(0, .ref (fr_ad w 0)), (3, .int (a1 / 10)), (4, .int b2.1), (5, .int b2.2.1), (6, .int b2.2.2.1), (8, .int b4.2), (9, .int (b4.2 + 1))]) dX10_meltsOf_95 rfl rfl (by decide) rfl rfl ?_
                refine fr_goto hg (n := 36) dX10_meltsOf_98 (by decide) ?_
                exact fr_leaf [0, 1, 2, 3, 4, 5, 6] rfl (fun h => h)
              · refine fr_aload_n hg 0 rfl dX10_meltsOf_69 rfl ?_
                refine fr_getr hg (q := 0) (q' := 9) fo_X10_35 rfl rfl dX10_meltsOf_70 rfl ?_
                refine fr_iload hg 6 rfl dX10_meltsOf_73 rfl ?_
                refine fr_iaload hg (q := 9) rfl dX10_meltsOf_75 rfl (fun x7 => ?_)
                refine fr_aload_n hg 0 rfl dX10_meltsOf_76 rfl ?_
                refine fr_getr hg (q := 0) (q' := 9) fo_X10_35 rfl rfl dX10_meltsOf_77 rfl ?_
                refine fr_iload hg 5 rfl dX10_meltsOf_80 rfl ?_
                refine fr_iaload hg (q := 9) rfl dX10_meltsOf_82 rfl (fun x8 => ?_)
                refine fr_icmp_ge hg (m := 91) dX10_meltsOf_83 (by decide) rfl ?_ ?_
                · refine fr_iload hg 5 rfl dX10_meltsOf_91 rfl ?_
                  refine fr_istore hg (ls' := [(0, .ref (fr_ad w 0)), (3, .int (a1 / 10)), (4, .int b2.1), (5, .int b2.2.1), (6, .int b2.2.2.1), (8, .int b4.1), (9, .int b4.2)]) dX10_meltsOf_93 (by decide) rfl rfl ?_
                  refine fr_iinc hg 6 (v := b4.2 + 1) (ls' := [(0, .ref (fr_ad w 0)), (3, .int (a1 / 10)), (4, .int b2.1), (5, .int b2.2.1), (6, .int b2.2.2.1), (8, .int b4.1), (9, .int (b4.2 + 1))]) dX10_meltsOf_95 rfl rfl (by decide) rfl rfl ?_
                  refine fr_goto hg (n := 36) dX10_meltsOf_98 (by decide) ?_
                  exact fr_leaf [0, 1, 2, 3, 4, 5, 6] rfl (fun h => h)
                · refine fr_iload hg 6 rfl dX10_meltsOf_86 rfl ?_
                  refine fr_goto hg (n := 93) dX10_meltsOf_88 (by decide) ?_
                  refine fr_istore hg (ls' := [(0, .ref (fr_ad w 0)), (3, .int (a1 / 10)), (4, .int b2.1), (5, .int b2.2.1), (6, .int b2.2.2.1), (8, .int b4.2), (9, .int b4.2)]) dX10_meltsOf_93 (by decide) rfl rfl ?_
                  refine fr_iinc hg 6 (v := b4.2 + 1) (ls' := [(0, .ref (fr_ad w 0)), (3, .int (a1 / 10)), (4, .int b2.1), (5, .int b2.2.1), (6, .int b2.2.2.1), (8, .int b4.2), (9, .int (b4.2 + 1))]) dX10_meltsOf_95 rfl rfl (by decide) rfl rfl ?_
                  refine fr_goto hg (n := 36) dX10_meltsOf_98 (by decide) ?_
                  exact fr_leaf [0, 1, 2, 3, 4, 5, 6] rfl (fun h => h)
      refine fr_iload hg 5 rfl dX10_meltsOf_101 rfl ?_
      refine fr_iconst hg (v := (-1)) (by decide) dX10_meltsOf_103 rfl ?_
      refine fr_join (m := 124) (lj := fun (t9 : Int32) => [(0, .ref (fr_ad w 0)), (3, .int (a1 / 10)), (4, .int b2.1), (5, .int b2.2.1), (6, .int b2.2.2.1), (8, .int c5)]) (sj := fun t9 => [.int t9]) (wj := fun t9 => σ) ?_ (fun t9 => ?_)
      · refine fr_icmp_ne hg (m := 111) dX10_meltsOf_104 (by decide) rfl ?_ ?_
        · refine fr_aload_n hg 0 rfl dX10_meltsOf_111 rfl ?_
          refine fr_getr hg (q := 0) (q' := 9) fo_X10_35 rfl rfl dX10_meltsOf_112 rfl ?_
          refine fr_iload hg 5 rfl dX10_meltsOf_115 rfl ?_
          refine fr_iaload hg (q := 9) rfl dX10_meltsOf_117 rfl (fun x10 => ?_)
          refine fr_iload_n hg 1 rfl dX10_meltsOf_118 rfl ?_
          refine fr_iadd hg dX10_meltsOf_119 rfl ?_
          refine fr_iconst hg (v := 1) (by decide) dX10_meltsOf_120 rfl ?_
          refine fr_isub hg dX10_meltsOf_121 rfl ?_
          refine fr_iload_n hg 1 rfl dX10_meltsOf_122 rfl ?_
          refine fr_idiv hg dX10_meltsOf_123 rfl (fun x11 => ?_)
          exact fr_leaf [0, 1, 2, 3, 4, 5] rfl (fun h => h)
        · refine fr_iconst hg (v := 0) (by decide) dX10_meltsOf_107 rfl ?_
          refine fr_goto hg (n := 124) dX10_meltsOf_108 (by decide) ?_
          exact fr_leaf [0, 1, 2, 3, 4, 5] rfl (fun h => h)
      refine fr_istore hg (ls' := [(0, .ref (fr_ad w 0)), (3, .int (a1 / 10)), (4, .int b2.1), (5, .int b2.2.1), (6, .int b2.2.2.1), (8, .int c5), (9, .int t9)]) dX10_meltsOf_124 (by decide) rfl rfl ?_
      refine fr_iload hg 5 rfl dX10_meltsOf_126 rfl ?_
      refine fr_iconst hg (v := (-1)) (by decide) dX10_meltsOf_128 rfl ?_
      refine fr_icmp_eq hg (m := 143) dX10_meltsOf_129 (by decide) rfl ?_ ?_
      · refine fr_iconst hg (v := 0) (by decide) dX10_meltsOf_143 rfl ?_
        refine fr_istore hg (ls' := [(0, .ref (fr_ad w 0)), (3, .int (a1 / 10)), (4, .int b2.1), (5, .int b2.2.1), (6, .int b2.2.2.1), (7, .int 0), (8, .int c5), (9, .int t9)]) dX10_meltsOf_144 (by decide) rfl rfl ?_
        refine fr_iload hg 4 rfl dX10_meltsOf_146 rfl ?_
        refine fr_iload hg 5 rfl dX10_meltsOf_148 rfl ?_
        refine fr_join (m := 161) (lj := fun (t12 : Int32) => [(0, .ref (fr_ad w 0)), (3, .int (a1 / 10)), (4, .int b2.1), (5, .int b2.2.1), (7, .int 0), (9, .int t9)]) (sj := fun t12 => [.int t12, .int b2.2.2.1]) (wj := fun t12 => σ) ?_ (fun t12 => ?_)
        · refine fr_some_ite ?_
          refine fr_if_eq hg (m := 160) dX10_meltsOf_150 (by decide) rfl ?_ ?_
          · refine fr_iconst hg (v := 0) (by decide) dX10_meltsOf_160 rfl ?_
            exact fr_leaf [0, 1, 2, 3, 5, 7] rfl (fun h => h)
          · refine fr_iconst hg (v := 1) (by decide) dX10_meltsOf_153 rfl ?_
            refine fr_iload hg 6 rfl dX10_meltsOf_154 rfl ?_
            refine fr_ishl hg dX10_meltsOf_156 rfl ?_
            refine fr_goto hg (n := 161) dX10_meltsOf_157 (by decide) ?_
            exact fr_leaf [0, 1, 2, 3, 5, 7] rfl (fun h => h)
        refine fr_ior hg dX10_meltsOf_161 rfl ?_
        refine fr_istore hg (ls' := [(0, .ref (fr_ad w 0)), (3, .int (a1 / 10)), (4, .int b2.1), (5, .int b2.2.1), (6, .int (b2.2.2.1 ||| t12)), (7, .int 0), (9, .int t9)]) dX10_meltsOf_162 (by decide) rfl rfl ?_
        refine fr_iload hg 2 rfl dX10_meltsOf_164 rfl ?_
        refine fr_iload hg 5 rfl dX10_meltsOf_166 rfl ?_
        refine fr_join (m := 177) (lj := fun (t13 : Int32) => [(0, .ref (fr_ad w 0)), (3, .int (a1 / 10)), (5, .int b2.2.1), (6, .int (b2.2.2.1 ||| t12)), (7, .int 0)]) (sj := fun t13 => [.int t13, .int b2.1]) (wj := fun t13 => σ) ?_ (fun t13 => ?_)
        · refine fr_some_ite ?_
          refine fr_if_eq hg (m := 176) dX10_meltsOf_168 (by decide) rfl ?_ ?_
          · refine fr_iconst hg (v := 0) (by decide) dX10_meltsOf_176 rfl ?_
            exact fr_leaf [0, 1, 3, 4, 5] rfl (fun h => h)
          · refine fr_iload hg 6 rfl dX10_meltsOf_171 rfl ?_
            refine fr_goto hg (n := 177) dX10_meltsOf_173 (by decide) ?_
            exact fr_leaf [0, 1, 3, 4, 5] rfl (fun h => h)
        refine fr_isub hg dX10_meltsOf_177 rfl ?_
        refine fr_istore hg (ls' := [(0, .ref (fr_ad w 0)), (3, .int (a1 / 10)), (4, .int (b2.1 - t13)), (5, .int b2.2.1), (6, .int (b2.2.2.1 ||| t12)), (7, .int 0)]) dX10_meltsOf_178 (by decide) rfl rfl ?_
        refine fr_iload hg 3 rfl dX10_meltsOf_180 rfl ?_
        refine fr_iload hg 5 rfl dX10_meltsOf_182 rfl ?_
        refine fr_if_eq hg (m := 191) dX10_meltsOf_184 (by decide) rfl ?_ ?_
        · refine fr_iconst hg (v := 0) (by decide) dX10_meltsOf_191 rfl ?_
          refine fr_iadd hg dX10_meltsOf_192 rfl ?_
          refine fr_istore hg (ls' := [(0, .ref (fr_ad w 0)), (3, .int (a1 / 10)), (4, .int (b2.1 - t13)), (5, .int (b2.2.1 + 0)), (6, .int (b2.2.2.1 ||| t12)), (7, .int 0)]) dX10_meltsOf_193 (by decide) rfl rfl ?_
          refine fr_goto hg (n := 25) dX10_meltsOf_195 (by decide) ?_
          exact fr_leaf [0, 1, 2, 3, 4, 5] rfl (fun h => h)
        · refine fr_iconst hg (v := 1) (by decide) dX10_meltsOf_187 rfl ?_
          refine fr_goto hg (n := 192) dX10_meltsOf_188 (by decide) ?_
          refine fr_iadd hg dX10_meltsOf_192 rfl ?_
          refine fr_istore hg (ls' := [(0, .ref (fr_ad w 0)), (3, .int (a1 / 10)), (4, .int (b2.1 - t13)), (5, .int (b2.2.1 + 1)), (6, .int (b2.2.2.1 ||| t12)), (7, .int 0)]) dX10_meltsOf_193 (by decide) rfl rfl ?_
          refine fr_goto hg (n := 25) dX10_meltsOf_195 (by decide) ?_
          exact fr_leaf [0, 1, 2, 3, 4, 5] rfl (fun h => h)
      · refine fr_iload hg 6 rfl dX10_meltsOf_132 rfl ?_
        refine fr_iload hg 2 rfl dX10_meltsOf_134 rfl ?_
        refine fr_join (m := 144) (lj := fun (t14 : Int32) => [(0, .ref (fr_ad w 0)), (3, .int (a1 / 10)), (4, .int b2.1), (5, .int b2.2.1), (6, .int b2.2.2.1), (8, .int c5), (9, .int t9)]) (sj := fun t14 => [.int t14]) (wj := fun t14 => σ) ?_ (fun t14 => ?_)
        · refine fr_some_ite ?_
          refine fr_icmp_gt hg (m := 143) dX10_meltsOf_136 (by decide) rfl ?_ ?_
          · refine fr_iconst hg (v := 0) (by decide) dX10_meltsOf_143 rfl ?_
            exact fr_leaf [0, 1, 2, 3, 4, 5, 6] rfl (fun h => h)
          · refine fr_iconst hg (v := 1) (by decide) dX10_meltsOf_139 rfl ?_
            refine fr_goto hg (n := 144) dX10_meltsOf_140 (by decide) ?_
            exact fr_leaf [0, 1, 2, 3, 4, 5, 6] rfl (fun h => h)
        refine fr_istore hg (ls' := [(0, .ref (fr_ad w 0)), (3, .int (a1 / 10)), (4, .int b2.1), (5, .int b2.2.1), (6, .int b2.2.2.1), (7, .int t14), (8, .int c5), (9, .int t9)]) dX10_meltsOf_144 (by decide) rfl rfl ?_
        refine fr_iload hg 4 rfl dX10_meltsOf_146 rfl ?_
        refine fr_iload hg 5 rfl dX10_meltsOf_148 rfl ?_
        refine fr_join (m := 161) (lj := fun (t15 : Int32) => [(0, .ref (fr_ad w 0)), (3, .int (a1 / 10)), (4, .int b2.1), (5, .int b2.2.1), (7, .int t14), (9, .int t9)]) (sj := fun t15 => [.int t15, .int b2.2.2.1]) (wj := fun t15 => σ) ?_ (fun t15 => ?_)
        · refine fr_some_ite ?_
          refine fr_if_eq hg (m := 160) dX10_meltsOf_150 (by decide) rfl ?_ ?_
          · refine fr_iconst hg (v := 0) (by decide) dX10_meltsOf_160 rfl ?_
            exact fr_leaf [0, 1, 2, 3, 5, 7] rfl (fun h => h)
          · refine fr_iconst hg (v := 1) (by decide) dX10_meltsOf_153 rfl ?_
            refine fr_iload hg 6 rfl dX10_meltsOf_154 rfl ?_
            refine fr_ishl hg dX10_meltsOf_156 rfl ?_
            refine fr_goto hg (n := 161) dX10_meltsOf_157 (by decide) ?_
            exact fr_leaf [0, 1, 2, 3, 5, 7] rfl (fun h => h)
        refine fr_ior hg dX10_meltsOf_161 rfl ?_
        refine fr_istore hg (ls' := [(0, .ref (fr_ad w 0)), (3, .int (a1 / 10)), (4, .int b2.1), (5, .int b2.2.1), (6, .int (b2.2.2.1 ||| t15)), (7, .int t14), (9, .int t9)]) dX10_meltsOf_162 (by decide) rfl rfl ?_
        refine fr_iload hg 2 rfl dX10_meltsOf_164 rfl ?_
        refine fr_iload hg 5 rfl dX10_meltsOf_166 rfl ?_
        refine fr_join (m := 177) (lj := fun (t16 : Int32) => [(0, .ref (fr_ad w 0)), (3, .int (a1 / 10)), (5, .int b2.2.1), (6, .int (b2.2.2.1 ||| t15)), (7, .int t14)]) (sj := fun t16 => [.int t16, .int b2.1]) (wj := fun t16 => σ) ?_ (fun t16 => ?_)
        · refine fr_some_ite ?_
          refine fr_if_eq hg (m := 176) dX10_meltsOf_168 (by decide) rfl ?_ ?_
          · refine fr_iconst hg (v := 0) (by decide) dX10_meltsOf_176 rfl ?_
            exact fr_leaf [0, 1, 3, 4, 5] rfl (fun h => h)
          · refine fr_iload hg 6 rfl dX10_meltsOf_171 rfl ?_
            refine fr_goto hg (n := 177) dX10_meltsOf_173 (by decide) ?_
            exact fr_leaf [0, 1, 3, 4, 5] rfl (fun h => h)
        refine fr_isub hg dX10_meltsOf_177 rfl ?_
        refine fr_istore hg (ls' := [(0, .ref (fr_ad w 0)), (3, .int (a1 / 10)), (4, .int (b2.1 - t16)), (5, .int b2.2.1), (6, .int (b2.2.2.1 ||| t15)), (7, .int t14)]) dX10_meltsOf_178 (by decide) rfl rfl ?_
        refine fr_iload hg 3 rfl dX10_meltsOf_180 rfl ?_
        refine fr_iload hg 5 rfl dX10_meltsOf_182 rfl ?_
        refine fr_if_eq hg (m := 191) dX10_meltsOf_184 (by decide) rfl ?_ ?_
        · refine fr_iconst hg (v := 0) (by decide) dX10_meltsOf_191 rfl ?_
          refine fr_iadd hg dX10_meltsOf_192 rfl ?_
          refine fr_istore hg (ls' := [(0, .ref (fr_ad w 0)), (3, .int (a1 / 10)), (4, .int (b2.1 - t16)), (5, .int (b2.2.1 + 0)), (6, .int (b2.2.2.1 ||| t15)), (7, .int t14)]) dX10_meltsOf_193 (by decide) rfl rfl ?_
          refine fr_goto hg (n := 25) dX10_meltsOf_195 (by decide) ?_
          exact fr_leaf [0, 1, 2, 3, 4, 5] rfl (fun h => h)
        · refine fr_iconst hg (v := 1) (by decide) dX10_meltsOf_187 rfl ?_
          refine fr_goto hg (n := 192) dX10_meltsOf_188 (by decide) ?_
          refine fr_iadd hg dX10_meltsOf_192 rfl ?_
          refine fr_istore hg (ls' := [(0, .ref (fr_ad w 0)), (3, .int (a1 / 10)), (4, .int (b2.1 - t16)), (5, .int (b2.2.1 + 1)), (6, .int (b2.2.2.1 ||| t15)), (7, .int t14)]) dX10_meltsOf_193 (by decide) rfl rfl ?_
          refine fr_goto hg (n := 25) dX10_meltsOf_195 (by decide) ?_
          exact fr_leaf [0, 1, 2, 3, 4, 5] rfl (fun h => h)
  refine fr_iload hg 0 rfl dX10_meltsOf_198 rfl ?_
  exact fr_iret hg (rty := .int) rfl dX10_meltsOf_200 (fun h => h)
noncomputable def zX10_melts (σ : fr_St) (a1 : Int32) (a2 : Int32) (a3 : Int32) : Option (Int32 × fr_St) :=
  if zX10_in a1.toInt64 0 99 = 0 then some ((-2), σ) else if zX10_in a2.toInt64 0 30 = 0 then some ((-2), σ) else if zX10_in a3.toInt64 0 99 = 0 then some ((-2), σ) else (zX10_scrapesAll σ).bind (fun σ1 => if a1 + a2 ≤ 40 then (zX10_meltsOf σ1 a1 a3).bind (fun r2 => some (r2, σ1)) else some ((-3), σ1))
set_option maxRecDepth 100000 in
set_option maxHeartbeats 4000000 in
theorem mX10_melts (a1 : Int32) (a2 : Int32) (a3 : Int32) : fr_MI2 yX10_melts cX10_melts 4 .int 5 113 fr_shM (fun w => [.ref (fr_ad w 0), .int a1, .int a2, .int a3]) (fun σ => zX10_melts σ a1 a2 a3) := by
  refine fr_mkI2 (by decide) (fun w => Nat.le_of_ble_eq_true rfl) (fun g w σ hg => ?_)
  show fr_V g w 4 (zX10_melts σ a1 a2 a3) _ 0 [(0, .ref (fr_ad w 0)), (1, .int a1), (2, .int a2), (3, .int a3)] [] σ
  unfold zX10_melts
  refine fr_iload_n hg 1 rfl dX10_melts_0 rfl ?_
  refine fr_i2l hg dX10_melts_1 rfl ?_
  refine fr_lconst hg (v := 0) (by decide) dX10_melts_2 rfl ?_
  refine fr_ldc2 hg cl_X10_148 dX10_melts_3 rfl ?_
  refine fr_ci0 hg (mX10_in a1.toInt64 0 99) (fr_crS hg mo_X10_73 rfl (by decide) (by decide) (Nat.le_of_ble_eq_true rfl) dX10_melts_6 rfl) rfl ?_
  refine fr_if_eq hg (m := 36) dX10_melts_9 (by decide) rfl ?_ ?_
  · refine fr_bipush hg (v := (-2)) (by decide) dX10_melts_36 rfl ?_
    exact fr_iret hg (rty := .int) rfl dX10_melts_38 (fun h => h)
  · refine fr_iload_n hg 2 rfl dX10_melts_12 rfl ?_
    refine fr_i2l hg dX10_melts_13 rfl ?_
    refine fr_lconst hg (v := 0) (by decide) dX10_melts_14 rfl ?_
    refine fr_ldc2 hg cl_X10_220 dX10_melts_15 rfl ?_
    refine fr_ci0 hg (mX10_in a2.toInt64 0 30) (fr_crS hg mo_X10_73 rfl (by decide) (by decide) (Nat.le_of_ble_eq_true rfl) dX10_melts_18 rfl) rfl ?_
    refine fr_if_eq hg (m := 36) dX10_melts_21 (by decide) rfl ?_ ?_
    · refine fr_bipush hg (v := (-2)) (by decide) dX10_melts_36 rfl ?_
      exact fr_iret hg (rty := .int) rfl dX10_melts_38 (fun h => h)
    · refine fr_iload_n hg 3 rfl dX10_melts_24 rfl ?_
      refine fr_i2l hg dX10_melts_25 rfl ?_
      refine fr_lconst hg (v := 0) (by decide) dX10_melts_26 rfl ?_
      refine fr_ldc2 hg cl_X10_148 dX10_melts_27 rfl ?_
      refine fr_ci0 hg (mX10_in a3.toInt64 0 99) (fr_crS hg mo_X10_73 rfl (by decide) (by decide) (Nat.le_of_ble_eq_true rfl) dX10_melts_30 rfl) rfl ?_
      refine fr_if_ne hg (m := 39) dX10_melts_33 (by decide) rfl ?_ ?_
      · refine fr_aload_n hg 0 rfl dX10_melts_39 rfl ?_
        refine fr_cv2 hg mX10_scrapesAll (fr_crV hg (q := 0) mo_X10_174 rfl ⟨_, _, rfl⟩ rfl (by decide) (by decide) (Nat.le_of_ble_eq_true rfl) dX10_melts_40 rfl) rfl (fun σ1 => ?_)
        refine fr_iload_n hg 1 rfl dX10_melts_43 rfl ?_
        refine fr_iload_n hg 2 rfl dX10_melts_44 rfl ?_
        refine fr_iadd hg dX10_melts_45 rfl ?_
        refine fr_bipush hg (v := 40) (by decide) dX10_melts_46 rfl ?_
        refine fr_icmp_le hg (m := 56) dX10_melts_48 (by decide) rfl ?_ ?_
        · refine fr_aload_n hg 0 rfl dX10_melts_56 rfl ?_
          refine fr_iload_n hg 1 rfl dX10_melts_57 rfl ?_
          refine fr_iload_n hg 3 rfl dX10_melts_58 rfl ?_
          refine fr_ci1 hg (mX10_meltsOf a1 a3) (fr_crV hg (q := 0) mo_X10_222 rfl ⟨_, _, rfl⟩ rfl (by decide) (by decide) (Nat.le_of_ble_eq_true rfl) dX10_melts_59 rfl) rfl (fun r2 => ?_)
          exact fr_iret hg (rty := .int) rfl dX10_melts_62 (fun h => h)
        · refine fr_bipush hg (v := (-3)) (by decide) dX10_melts_51 rfl ?_
          refine fr_goto hg (n := 62) dX10_melts_53 (by decide) ?_
          exact fr_iret hg (rty := .int) rfl dX10_melts_62 (fun h => h)
      · refine fr_bipush hg (v := (-2)) (by decide) dX10_melts_36 rfl ?_
        exact fr_iret hg (rty := .int) rfl dX10_melts_38 (fun h => h)
def zX10_greater (a1 : Int32) (a2 : Int32) : Int32 :=
  if a1 ≤ a2 then a2 else a1
set_option maxRecDepth 100000 in
set_option maxHeartbeats 4000000 in
theorem mX10_greater (a1 : Int32) (a2 : Int32) : fr_MI0 yX10_greater cX10_greater 2 .int 0 0 fr_shM (fun w => [.int a1, .int a2]) (fun σ => zX10_greater a1 a2) := by
  refine fr_mkI0 (by decide) (fun w => Nat.le_of_ble_eq_true rfl) (fun g w σ hg => ?_)
  show fr_V g w 2 (some (zX10_greater a1 a2)) _ 0 [(0, .int a1), (1, .int a2)] [] σ
  unfold zX10_greater
  refine fr_iload_n hg 0 rfl dX10_greater_0 rfl ?_
  refine fr_iload_n hg 1 rfl dX10_greater_1 rfl ?_
  refine fr_some_ite ?_
  refine fr_icmp_le hg (m := 9) dX10_greater_2 (by decide) rfl ?_ ?_
  · refine fr_iload_n hg 1 rfl dX10_greater_9 rfl ?_
    exact fr_iret hg (rty := .int) rfl dX10_greater_10 (fun h => h)
  · refine fr_iload_n hg 0 rfl dX10_greater_5 rfl ?_
    refine fr_goto hg (n := 10) dX10_greater_6 (by decide) ?_
    exact fr_iret hg (rty := .int) rfl dX10_greater_10 (fun h => h)
noncomputable def zX10_againOf_L12 (k0 : Int32) (k1 : Int32) (k2 : Int32) (k3 : Int32) (v4 : Int32) (v5 : Int32) (v6 : Int32) (v7 : Int32) : Option ((Int32 × Int32 × Int32 × Int32) ⊕ (Int32 × Int32)) :=
  if 120 < v7 then some (.inr (v5, v6)) else (some (if v7 < k2 then 0 else k1) : Option (Int32)).bind (fun t1 => if zX10_greater ((v4 + k0) - t1) 0 ≤ 10 then if zX10_greater ((v4 + k0) - t1) 0 ≤ 10 then some (.inl (zX10_greater ((v4 + k0) - t1) 0, v5, v6, v7 + 1)) else some (.inl (zX10_greater ((v4 + k0) - t1) 0, v5, v7, v7 + 1)) else (some (if v5 = (-1) then v7 else v5) : Option (Int32)).bind (fun t2 => if zX10_greater ((v4 + k0) - t1) 0 ≤ 10 then some (.inl (zX10_greater ((v4 + k0) - t1) 0, t2, v6, v7 + 1)) else some (.inl (zX10_greater ((v4 + k0) - t1) 0, t2, v7, v7 + 1))))
noncomputable def zX10_againOf (a1 : Int32) (a2 : Int32) (a3 : Int32) (a4 : Int32) : Option (Int32) :=
  (fr_loop (fun (b1 : Int32 × Int32 × Int32 × Int32) => zX10_againOf_L12 a1 a2 a3 a4 b1.1 b1.2.1 b1.2.2.1 b1.2.2.2) fr_fu (0, (-1), (-1), 0)).bind (fun (c2 : Int32 × Int32) => if a4 = 0 then some c2.1 else if c2.2 = 120 then some (-1) else some (c2.2 + 1))
set_option maxRecDepth 100000 in
set_option maxHeartbeats 4000000 in
theorem mX10_againOf (a1 : Int32) (a2 : Int32) (a3 : Int32) (a4 : Int32) : fr_MI1 yX10_againOf cX10_againOf 8 .int 1 21 fr_shM (fun w => [.int a1, .int a2, .int a3, .int a4]) (fun σ => zX10_againOf a1 a2 a3 a4) := by
  refine fr_mkI1 (by decide) (fun w => Nat.le_of_ble_eq_true rfl) (fun g w σ hg => ?_)
  show fr_V g w 8 (zX10_againOf a1 a2 a3 a4) _ 0 [(0, .int a1), (1, .int a2), (2, .int a3), (3, .int a4)] [] σ
  unfold zX10_againOf
  refine fr_iconst hg (v := 0) (by decide) dX10_againOf_0 rfl ?_
  refine fr_istore hg (ls' := [(0, .int a1), (1, .int a2), (2, .int a3), (3, .int a4), (4, .int 0)]) dX10_againOf_1 (by decide) rfl rfl ?_
  refine fr_iconst hg (v := (-1)) (by decide) dX10_againOf_3 rfl ?_
  refine fr_istore hg (ls' := [(0, .int a1), (1, .int a2), (2, .int a3), (3, .int a4), (4, .int 0), (5, .int (-1))]) dX10_againOf_4 (by decide) rfl rfl ?_
  refine fr_iconst hg (v := (-1)) (by decide) dX10_againOf_6 rfl ?_
  refine fr_istore hg (ls' := [(0, .int a1), (1, .int a2), (2, .int a3), (3, .int a4), (4, .int 0), (5, .int (-1)), (6, .int (-1))]) dX10_againOf_7 (by decide) rfl rfl ?_
  refine fr_iconst hg (v := 0) (by decide) dX10_againOf_9 rfl ?_
  refine fr_istore hg (ls' := [(0, .int a1), (1, .int a2), (2, .int a3), (3, .int a4), (4, .int 0), (5, .int (-1)), (6, .int (-1)), (7, .int 0)]) dX10_againOf_10 (by decide) rfl rfl ?_
  refine fr_lp (fun (b1 : Int32 × Int32 × Int32 × Int32) => [(0, .int a1), (1, .int a2), (2, .int a3), (3, .int a4), (4, .int b1.1), (5, .int b1.2.1), (6, .int b1.2.2.1), (7, .int b1.2.2.2)]) (fun b1 => σ) 85 (fun (c2 : Int32 × Int32) => [(3, .int a4), (5, .int c2.1), (6, .int c2.2)]) (fun c2 => σ) [0, 1, 2, 3, 4, 5, 6, 7] rfl rfl (fun b1 => ?_) (fun c2 => ?_)
  · show fr_V g w _ (zX10_againOf_L12 a1 a2 a3 a4 b1.1 b1.2.1 b1.2.2.1 b1.2.2.2) _ _ _ _ _
    unfold zX10_againOf_L12
    refine fr_iload hg 7 rfl dX10_againOf_12 rfl ?_
    refine fr_bipush hg (v := 120) (by decide) dX10_againOf_14 rfl ?_
    refine fr_icmp_gt hg (m := 85) dX10_againOf_16 (by decide) rfl ?_ ?_
    · exact fr_leaf [3, 5, 6] rfl (fun h => h)
    · refine fr_iload hg 4 rfl dX10_againOf_19 rfl ?_
      refine fr_iload_n hg 0 rfl dX10_againOf_21 rfl ?_
      refine fr_iadd hg dX10_againOf_22 rfl ?_
      refine fr_iload hg 7 rfl dX10_againOf_23 rfl ?_
      refine fr_iload_n hg 2 rfl dX10_againOf_25 rfl ?_
      refine fr_join (m := 34) (lj := fun (t3 : Int32) => [(0, .int a1), (1, .int a2), (2, .int a3), (3, .int a4), (5, .int b1.2.1), (6, .int b1.2.2.1), (7, .int b1.2.2.2)]) (sj := fun t3 => [.int t3, .int (b1.1 + a1)]) (wj := fun t3 => σ) ?_ (fun t3 => ?_)
      · refine fr_some_ite ?_
        refine fr_icmp_lt hg (m := 33) dX10_againOf_26 (by decide) rfl ?_ ?_
        · refine fr_iconst hg (v := 0) (by decide) dX10_againOf_33 rfl ?_
          exact fr_leaf [0, 1, 2, 3, 5, 6, 7] rfl (fun h => h)
        · refine fr_iload_n hg 1 rfl dX10_againOf_29 rfl ?_
          refine fr_goto hg (n := 34) dX10_againOf_30 (by decide) ?_
          exact fr_leaf [0, 1, 2, 3, 5, 6, 7] rfl (fun h => h)
      refine fr_isub hg dX10_againOf_34 rfl ?_
      refine fr_iconst hg (v := 0) (by decide) dX10_againOf_35 rfl ?_
      refine fr_ci0 hg (mX10_greater ((b1.1 + a1) - t3) 0) (fr_crS hg mo_X10_225 rfl (by decide) (by decide) (Nat.le_of_ble_eq_true rfl) dX10_againOf_36 rfl) rfl ?_
      refine fr_istore hg (ls' := [(0, .int a1), (1, .int a2), (2, .int a3), (3, .int a4), (4, .int (zX10_greater ((b1.1 + a1) - t3) 0)), (5, .int b1.2.1), (6, .int b1.2.2.1), (7, .int b1.2.2.2)]) dX10_againOf_39 (by decide) rfl rfl ?_
      refine fr_iload hg 4 rfl dX10_againOf_41 rfl ?_
      refine fr_bipush hg (v := 10) (by decide) dX10_againOf_43 rfl ?_
      refine fr_icmp_le hg (m := 59) dX10_againOf_45 (by decide) rfl ?_ ?_
      · refine fr_iload hg 5 rfl dX10_againOf_59 rfl ?_
        refine fr_istore hg (ls' := [(0, .int a1), (1, .int a2), (2, .int a3), (3, .int a4), (4, .int (zX10_greater ((b1.1 + a1) - t3) 0)), (5, .int b1.2.1), (6, .int b1.2.2.1), (7, .int b1.2.2.2)]) dX10_againOf_61 (by decide) rfl rfl ?_
        refine fr_iload hg 4 rfl dX10_againOf_63 rfl ?_
        refine fr_bipush hg (v := 10) (by decide) dX10_againOf_65 rfl ?_
        refine fr_icmp_le hg (m := 75) dX10_againOf_67 (by decide) rfl ?_ ?_
        · refine fr_iload hg 6 rfl dX10_againOf_75 rfl ?_
          refine fr_istore hg (ls' := [(0, .int a1), (1, .int a2), (2, .int a3), (3, .int a4), (4, .int (zX10_greater ((b1.1 + a1) - t3) 0)), (5, .int b1.2.1), (6, .int b1.2.2.1), (7, .int b1.2.2.2)]) dX10_againOf_77 (by decide) rfl rfl ?_
          refine fr_iinc hg 7 (v := b1.2.2.2 + 1) (ls' := [(0, .int a1), (1, .int a2), (2, .int a3), (3, .int a4), (4, .int (zX10_greater ((b1.1 + a1) - t3) 0)), (5, .int b1.2.1), (6, .int b1.2.2.1), (7, .int (b1.2.2.2 + 1))]) dX10_againOf_79 rfl rfl (by decide) rfl rfl ?_
          refine fr_goto hg (n := 12) dX10_againOf_82 (by decide) ?_
          exact fr_leaf [0, 1, 2, 3, 4, 5, 6, 7] rfl (fun h => h)
        · refine fr_iload hg 7 rfl dX10_againOf_70 rfl ?_
          refine fr_goto hg (n := 77) dX10_againOf_72 (by decide) ?_
          refine fr_istore hg (ls' := [(0, .int a1), (1, .int a2), (2, .int a3), (3, .int a4), (4, .int (zX10_greater ((b1.1 + a1) - t3) 0)), (5, .int b1.2.1), (6, .int b1.2.2.2), (7, .int b1.2.2.2)]) dX10_againOf_77 (by decide) rfl rfl ?_
          refine fr_iinc hg 7 (v := b1.2.2.2 + 1) (ls' := [(0, .int a1), (1, .int a2), (2, .int a3), (3, .int a4), (4, .int (zX10_greater ((b1.1 + a1) - t3) 0)), (5, .int b1.2.1), (6, .int b1.2.2.2), (7, .int (b1.2.2.2 + 1))]) dX10_againOf_79 rfl rfl (by decide) rfl rfl ?_
          refine fr_goto hg (n := 12) dX10_againOf_82 (by decide) ?_
          exact fr_leaf [0, 1, 2, 3, 4, 5, 6, 7] rfl (fun h => h)
      · refine fr_iload hg 5 rfl dX10_againOf_48 rfl ?_
        refine fr_iconst hg (v := (-1)) (by decide) dX10_againOf_50 rfl ?_
        refine fr_join (m := 61) (lj := fun (t4 : Int32) => [(0, .int a1), (1, .int a2), (2, .int a3), (3, .int a4), (4, .int (zX10_greater ((b1.1 + a1) - t3) 0)), (6, .int b1.2.2.1), (7, .int b1.2.2.2)]) (sj := fun t4 => [.int t4]) (wj := fun t4 => σ) ?_ (fun t4 => ?_)
        · refine fr_some_ite ?_
          refine fr_icmp_ne hg (m := 59) dX10_againOf_51 (by decide) rfl ?_ ?_
          · refine fr_iload hg 5 rfl dX10_againOf_59 rfl ?_
            exact fr_leaf [0, 1, 2, 3, 4, 6, 7] rfl (fun h => h)
          · refine fr_iload hg 7 rfl dX10_againOf_54 rfl ?_
            refine fr_goto hg (n := 61) dX10_againOf_56 (by decide) ?_
            exact fr_leaf [0, 1, 2, 3, 4, 6, 7] rfl (fun h => h)
        refine fr_istore hg (ls' := [(0, .int a1), (1, .int a2), (2, .int a3), (3, .int a4), (4, .int (zX10_greater ((b1.1 + a1) - t3) 0)), (5, .int t4), (6, .int b1.2.2.1), (7, .int b1.2.2.2)]) dX10_againOf_61 (by decide) rfl rfl ?_
        refine fr_iload hg 4 rfl dX10_againOf_63 rfl ?_
        refine fr_bipush hg (v := 10) (by decide) dX10_againOf_65 rfl ?_
        refine fr_icmp_le hg (m := 75) dX10_againOf_67 (by decide) rfl ?_ ?_
        · refine fr_iload hg 6 rfl dX10_againOf_75 rfl ?_
          refine fr_istore hg (ls' := [(0, .int a1), (1, .int a2), (2, .int a3), (3, .int a4), (4, .int (zX10_greater ((b1.1 + a1) - t3) 0)), (5, .int t4), (6, .int b1.2.2.1), (7, .int b1.2.2.2)]) dX10_againOf_77 (by decide) rfl rfl ?_
          refine fr_iinc hg 7 (v := b1.2.2.2 + 1) (ls' := [(0, .int a1), (1, .int a2), (2, .int a3), (3, .int a4), (4, .int (zX10_greater ((b1.1 + a1) - t3) 0)), (5, .int t4), (6, .int b1.2.2.1), (7, .int (b1.2.2.2 + 1))]) dX10_againOf_79 rfl rfl (by decide) rfl rfl ?_
          refine fr_goto hg (n := 12) dX10_againOf_82 (by decide) ?_
          exact fr_leaf [0, 1, 2, 3, 4, 5, 6, 7] rfl (fun h => h)
        · refine fr_iload hg 7 rfl dX10_againOf_70 rfl ?_
          refine fr_goto hg (n := 77) dX10_againOf_72 (by decide) ?_
          refine fr_istore hg (ls' := [(0, .int a1), (1, .int a2), (2, .int a3), (3, .int a4), (4, .int (zX10_greater ((b1.1 + a1) - t3) 0)), (5, .int t4), (6, .int b1.2.2.2), (7, .int b1.2.2.2)]) dX10_againOf_77 (by decide) rfl rfl ?_
          refine fr_iinc hg 7 (v := b1.2.2.2 + 1) (ls' := [(0, .int a1), (1, .int a2), (2, .int a3), (3, .int a4), (4, .int (zX10_greater ((b1.1 + a1) - t3) 0)), (5, .int t4), (6, .int b1.2.2.2), (7, .int (b1.2.2.2 + 1))]) dX10_againOf_79 rfl rfl (by decide) rfl rfl ?_
          refine fr_goto hg (n := 12) dX10_againOf_82 (by decide) ?_
          exact fr_leaf [0, 1, 2, 3, 4, 5, 6, 7] rfl (fun h => h)
  refine fr_iload_n hg 0 rfl dX10_againOf_85 rfl ?_
  refine fr_if_ne hg (m := 94) dX10_againOf_86 (by decide) rfl ?_ ?_
  · refine fr_iload hg 2 rfl dX10_againOf_94 rfl ?_
    refine fr_bipush hg (v := 120) (by decide) dX10_againOf_96 rfl ?_
    refine fr_icmp_ne hg (m := 105) dX10_againOf_98 (by decide) rfl ?_ ?_
    · refine fr_iload hg 2 rfl dX10_againOf_105 rfl ?_
      refine fr_iconst hg (v := 1) (by decide) dX10_againOf_107 rfl ?_
      refine fr_iadd hg dX10_againOf_108 rfl ?_
      exact fr_iret hg (rty := .int) rfl dX10_againOf_109 (fun h => h)
    · refine fr_iconst hg (v := (-1)) (by decide) dX10_againOf_101 rfl ?_
      refine fr_goto hg (n := 109) dX10_againOf_102 (by decide) ?_
      exact fr_iret hg (rty := .int) rfl dX10_againOf_109 (fun h => h)
  · refine fr_iload hg 1 rfl dX10_againOf_89 rfl ?_
    refine fr_goto hg (n := 109) dX10_againOf_91 (by decide) ?_
    exact fr_iret hg (rty := .int) rfl dX10_againOf_109 (fun h => h)
noncomputable def zX10_again (a1 : Int32) (a2 : Int32) (a3 : Int32) (a4 : Int32) : Option (Int32) :=
  if zX10_in a1.toInt64 1 5 = 0 then some (-2) else if zX10_in a2.toInt64 0 9 = 0 then some (-2) else if zX10_in a3.toInt64 0 60 = 0 then some (-2) else if zX10_isTwo a4 = 0 then some (-2) else (zX10_againOf a1 a2 a3 a4).bind (fun r1 => some r1)
set_option maxRecDepth 100000 in
set_option maxHeartbeats 4000000 in
theorem mX10_again (a1 : Int32) (a2 : Int32) (a3 : Int32) (a4 : Int32) : fr_MI1 yX10_again cX10_again 5 .int 2 48 fr_shM (fun w => [.ref (fr_ad w 0), .int a1, .int a2, .int a3, .int a4]) (fun σ => zX10_again a1 a2 a3 a4) := by
  refine fr_mkI1 (by decide) (fun w => Nat.le_of_ble_eq_true rfl) (fun g w σ hg => ?_)
  show fr_V g w 5 (zX10_again a1 a2 a3 a4) _ 0 [(0, .ref (fr_ad w 0)), (1, .int a1), (2, .int a2), (3, .int a3), (4, .int a4)] [] σ
  unfold zX10_again
  refine fr_iload_n hg 1 rfl dX10_again_0 rfl ?_
  refine fr_i2l hg dX10_again_1 rfl ?_
  refine fr_lconst hg (v := 1) (by decide) dX10_again_2 rfl ?_
  refine fr_ldc2 hg cl_X10_228 dX10_again_3 rfl ?_
  refine fr_ci0 hg (mX10_in a1.toInt64 1 5) (fr_crS hg mo_X10_73 rfl (by decide) (by decide) (Nat.le_of_ble_eq_true rfl) dX10_again_6 rfl) rfl ?_
  refine fr_if_eq hg (m := 55) dX10_again_9 (by decide) rfl ?_ ?_
  · refine fr_bipush hg (v := (-2)) (by decide) dX10_again_55 rfl ?_
    exact fr_iret hg (rty := .int) rfl dX10_again_57 (fun h => h)
  · refine fr_iload_n hg 2 rfl dX10_again_12 rfl ?_
    refine fr_i2l hg dX10_again_13 rfl ?_
    refine fr_lconst hg (v := 0) (by decide) dX10_again_14 rfl ?_
    refine fr_ldc2 hg cl_X10_119 dX10_again_15 rfl ?_
    refine fr_ci0 hg (mX10_in a2.toInt64 0 9) (fr_crS hg mo_X10_73 rfl (by decide) (by decide) (Nat.le_of_ble_eq_true rfl) dX10_again_18 rfl) rfl ?_
    refine fr_if_eq hg (m := 55) dX10_again_21 (by decide) rfl ?_ ?_
    · refine fr_bipush hg (v := (-2)) (by decide) dX10_again_55 rfl ?_
      exact fr_iret hg (rty := .int) rfl dX10_again_57 (fun h => h)
    · refine fr_iload_n hg 3 rfl dX10_again_24 rfl ?_
      refine fr_i2l hg dX10_again_25 rfl ?_
      refine fr_lconst hg (v := 0) (by decide) dX10_again_26 rfl ?_
      refine fr_ldc2 hg cl_X10_146 dX10_again_27 rfl ?_
      refine fr_ci0 hg (mX10_in a3.toInt64 0 60) (fr_crS hg mo_X10_73 rfl (by decide) (by decide) (Nat.le_of_ble_eq_true rfl) dX10_again_30 rfl) rfl ?_
      refine fr_if_eq hg (m := 55) dX10_again_33 (by decide) rfl ?_ ?_
      · refine fr_bipush hg (v := (-2)) (by decide) dX10_again_55 rfl ?_
        exact fr_iret hg (rty := .int) rfl dX10_again_57 (fun h => h)
      · refine fr_iload hg 4 rfl dX10_again_36 rfl ?_
        refine fr_ci0 hg (mX10_isTwo a4) (fr_crS hg mo_X10_102 rfl (by decide) (by decide) (Nat.le_of_ble_eq_true rfl) dX10_again_38 rfl) rfl ?_
        refine fr_if_eq hg (m := 55) dX10_again_41 (by decide) rfl ?_ ?_
        · refine fr_bipush hg (v := (-2)) (by decide) dX10_again_55 rfl ?_
          exact fr_iret hg (rty := .int) rfl dX10_again_57 (fun h => h)
        · refine fr_iload_n hg 1 rfl dX10_again_44 rfl ?_
          refine fr_iload_n hg 2 rfl dX10_again_45 rfl ?_
          refine fr_iload_n hg 3 rfl dX10_again_46 rfl ?_
          refine fr_iload hg 4 rfl dX10_again_47 rfl ?_
          refine fr_ci1 hg (mX10_againOf a1 a2 a3 a4) (fr_crS hg mo_X10_230 rfl (by decide) (by decide) (Nat.le_of_ble_eq_true rfl) dX10_again_49 rfl) rfl (fun r1 => ?_)
          refine fr_goto hg (n := 57) dX10_again_52 (by decide) ?_
          exact fr_iret hg (rty := .int) rfl dX10_again_57 (fun h => h)
def zX10_isNight (a1 : Int32) (a2 : Int32) : Int32 :=
  if zX10_in a1.toInt64 0 3 = 0 then 0 else if zX10_isTwo a2 = 0 then 0 else 1
theorem zbX10_isNight (a1 : Int32) (a2 : Int32) : zX10_isNight a1 a2 = 0 ∨ zX10_isNight a1 a2 = 1 := by
  unfold zX10_isNight
  first | exact Or.inl rfl | ((repeat' split) <;> first | exact Or.inl rfl | exact Or.inr rfl)
set_option maxRecDepth 100000 in
set_option maxHeartbeats 4000000 in
theorem mX10_isNight (a1 : Int32) (a2 : Int32) : fr_MI0 yX10_isNight cX10_isNight 2 .boolean 2 45 fr_shM (fun w => [.int a1, .int a2]) (fun σ => zX10_isNight a1 a2) := by
  refine fr_mkI0 (by decide) (fun w => Nat.le_of_ble_eq_true rfl) (fun g w σ hg => ?_)
  show fr_V g w 2 (some (zX10_isNight a1 a2)) _ 0 [(0, .int a1), (1, .int a2)] [] σ
  unfold zX10_isNight
  refine fr_iload_n hg 0 rfl dX10_isNight_0 rfl ?_
  refine fr_i2l hg dX10_isNight_1 rfl ?_
  refine fr_lconst hg (v := 0) (by decide) dX10_isNight_2 rfl ?_
  refine fr_ldc2 hg cl_X10_81 dX10_isNight_3 rfl ?_
  refine fr_ci0 hg (mX10_in a1.toInt64 0 3) (fr_crS hg mo_X10_73 rfl (by decide) (by decide) (Nat.le_of_ble_eq_true rfl) dX10_isNight_6 rfl) rfl ?_
  refine fr_some_ite ?_
  refine fr_if_eq hg (m := 23) dX10_isNight_9 (by decide) rfl ?_ ?_
  · refine fr_iconst hg (v := 0) (by decide) dX10_isNight_23 rfl ?_
    exact fr_iret hg (rty := .boolean) rfl dX10_isNight_24 (fun h => h)
  · refine fr_iload_n hg 1 rfl dX10_isNight_12 rfl ?_
    refine fr_ci0 hg (mX10_isTwo a2) (fr_crS hg mo_X10_102 rfl (by decide) (by decide) (Nat.le_of_ble_eq_true rfl) dX10_isNight_13 rfl) rfl ?_
    refine fr_some_ite ?_
    refine fr_if_eq hg (m := 23) dX10_isNight_16 (by decide) rfl ?_ ?_
    · refine fr_iconst hg (v := 0) (by decide) dX10_isNight_23 rfl ?_
      exact fr_iret hg (rty := .boolean) rfl dX10_isNight_24 (fun h => h)
    · refine fr_iconst hg (v := 1) (by decide) dX10_isNight_19 rfl ?_
      refine fr_goto hg (n := 24) dX10_isNight_20 (by decide) ?_
      exact fr_iret hg (rty := .boolean) rfl dX10_isNight_24 (fun h => h)
