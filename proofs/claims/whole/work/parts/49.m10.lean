noncomputable def zX10_copy_L120 (k1 : Int32) (k2 : Int32) (k3 : Int32) (k4 : Int32) (k5 : Int32) (v6 : Int32) (σ : fr_St) : Option ((Int32 × fr_St) ⊕ (fr_St)) :=
  if k5 ≤ v6 then some (.inr σ) else (fr_al 240 σ 3 (((60 * k1) + k2) + v6)).bind (fun x1 => (fr_as 60 σ 4 v6 x1).bind (fun σ2 => some (.inl (v6 + 1, σ2))))
noncomputable def zX10_copy_L157 (k3 : Int32) (k4 : Int32) (k5 : Int32) (v6 : Int32) (σ : fr_St) : Option ((Int32 × fr_St) ⊕ (fr_St)) :=
  if k5 ≤ v6 then some (.inr σ) else (fr_al 60 σ 4 v6).bind (fun x1 => (fr_as 240 σ 3 (((60 * k3) + k4) + v6) x1).bind (fun σ2 => some (.inl (v6 + 1, σ2))))
noncomputable def zX10_copy (σ : fr_St) (a1 : Int32) (a2 : Int32) (a3 : Int32) (a4 : Int32) (a5 : Int32) : Option (Int32 × fr_St) :=
  if zX10_isSheet a1 = 0 then some ((-2), σ) else if zX10_isSheet a3 = 0 then some ((-2), σ) else (fr_al 4 σ 1 a1).bind (fun x1 => if x1 < 0 then (zX10_met σ 1).bind (fun p3 => some (p3.1, p3.2)) else (fr_al 4 σ 1 a3).bind (fun x4 => if 0 ≤ x4 then (fr_al 4 σ 1 a1).bind (fun x5 => (fr_al 4 σ 1 a3).bind (fun x6 => if x5 = x6 then if a2 < 0 then (zX10_met σ 2).bind (fun p8 => some (p8.1, p8.2)) else if a4 < 0 then (zX10_met σ 2).bind (fun p10 => some (p10.1, p10.2)) else if a5 < 0 then (zX10_met σ 2).bind (fun p12 => some (p12.1, p12.2)) else (fr_al 4 σ 2 a1).bind (fun x13 => if 0 < lg_cmp (a2.toInt64 + a5.toInt64) x13.toInt64 then (zX10_met σ 2).bind (fun p15 => some (p15.1, p15.2)) else (fr_al 4 σ 2 a3).bind (fun x16 => if lg_cmp (a4.toInt64 + a5.toInt64) x16.toInt64 ≤ 0 then (fr_loop (fun (b17 : Int32 × fr_St) => zX10_copy_L120 a1 a2 a3 a4 a5 b17.1 b17.2) fr_fu (0, σ)).bind (fun (c18 : fr_St) => (fr_loop (fun (b21 : Int32 × fr_St) => zX10_copy_L157 a3 a4 a5 b21.1 b21.2) fr_fu (0, c18)).bind (fun (c22 : fr_St) => some (1, c22))) else (zX10_met σ 2).bind (fun p26 => some (p26.1, p26.2)))) else (zX10_met σ 4).bind (fun p28 => some (p28.1, p28.2)))) else (zX10_met σ 1).bind (fun p30 => some (p30.1, p30.2))))
set_option maxRecDepth 100000 in
set_option maxHeartbeats 4000000 in
theorem mX10_copy (a1 : Int32) (a2 : Int32) (a3 : Int32) (a4 : Int32) (a5 : Int32) : fr_MI2 yX10_copy cX10_copy 7 .int 2 45 fr_shM (fun w => [.ref (fr_ad w 0), .int a1, .int a2, .int a3, .int a4, .int a5]) (fun σ => zX10_copy σ a1 a2 a3 a4 a5) := by
  refine fr_mkI2 (by decide) (fun w => Nat.le_of_ble_eq_true rfl) (fun g w σ hg => ?_)
  show fr_V g w 7 (zX10_copy σ a1 a2 a3 a4 a5) _ 0 [(0, .ref (fr_ad w 0)), (1, .int a1), (2, .int a2), (3, .int a3), (4, .int a4), (5, .int a5)] [] σ
  unfold zX10_copy
  refine fr_iload_n hg 1 rfl dX10_copy_0 rfl ?_
  refine fr_ci0 hg (mX10_isSheet a1) (fr_crS hg mo_X10_83 rfl (by decide) (by decide) (Nat.le_of_ble_eq_true rfl) dX10_copy_1 rfl) rfl ?_
  refine fr_if_eq hg (m := 14) dX10_copy_4 (by decide) rfl ?_ ?_
  · refine fr_bipush hg (v := (-2)) (by decide) dX10_copy_14 rfl ?_
    exact fr_iret hg (rty := .int) rfl dX10_copy_16 (fun h => h)
  · refine fr_iload_n hg 3 rfl dX10_copy_7 rfl ?_
    refine fr_ci0 hg (mX10_isSheet a3) (fr_crS hg mo_X10_83 rfl (by decide) (by decide) (Nat.le_of_ble_eq_true rfl) dX10_copy_8 rfl) rfl ?_
    refine fr_if_ne hg (m := 17) dX10_copy_11 (by decide) rfl ?_ ?_
    · refine fr_aload_n hg 0 rfl dX10_copy_17 rfl ?_
      refine fr_getr hg (q := 0) (q' := 1) fo_X10_7 rfl rfl dX10_copy_18 rfl ?_
      refine fr_iload_n hg 1 rfl dX10_copy_21 rfl ?_
      refine fr_iaload hg (q := 1) rfl dX10_copy_22 rfl (fun x1 => ?_)
      refine fr_if_lt hg (m := 35) dX10_copy_23 (by decide) rfl ?_ ?_
      · refine fr_aload_n hg 0 rfl dX10_copy_35 rfl ?_
        refine fr_iconst hg (v := 1) (by decide) dX10_copy_36 rfl ?_
        refine fr_ci2 hg (mX10_met 1) (fr_crV hg (q := 0) mo_X10_89 rfl ⟨_, _, rfl⟩ rfl (by decide) (by decide) (Nat.le_of_ble_eq_true rfl) dX10_copy_37 rfl) rfl (fun p3 => ?_)
        exact fr_iret hg (rty := .int) rfl dX10_copy_40 (fun h => h)
      · refine fr_aload_n hg 0 rfl dX10_copy_26 rfl ?_
        refine fr_getr hg (q := 0) (q' := 1) fo_X10_7 rfl rfl dX10_copy_27 rfl ?_
        refine fr_iload_n hg 3 rfl dX10_copy_30 rfl ?_
        refine fr_iaload hg (q := 1) rfl dX10_copy_31 rfl (fun x4 => ?_)
        refine fr_if_ge hg (m := 41) dX10_copy_32 (by decide) rfl ?_ ?_
        · refine fr_aload_n hg 0 rfl dX10_copy_41 rfl ?_
          refine fr_getr hg (q := 0) (q' := 1) fo_X10_7 rfl rfl dX10_copy_42 rfl ?_
          refine fr_iload_n hg 1 rfl dX10_copy_45 rfl ?_
          refine fr_iaload hg (q := 1) rfl dX10_copy_46 rfl (fun x5 => ?_)
          refine fr_aload_n hg 0 rfl dX10_copy_47 rfl ?_
          refine fr_getr hg (q := 0) (q' := 1) fo_X10_7 rfl rfl dX10_copy_48 rfl ?_
          refine fr_iload_n hg 3 rfl dX10_copy_51 rfl ?_
          refine fr_iaload hg (q := 1) rfl dX10_copy_52 rfl (fun x6 => ?_)
          refine fr_icmp_eq hg (m := 62) dX10_copy_53 (by decide) rfl ?_ ?_
          · refine fr_iload_n hg 2 rfl dX10_copy_62 rfl ?_
            refine fr_if_lt hg (m := 111) dX10_copy_63 (by decide) rfl ?_ ?_
            · refine fr_aload_n hg 0 rfl dX10_copy_111 rfl ?_
              refine fr_iconst hg (v := 2) (by decide) dX10_copy_112 rfl ?_
              refine fr_ci2 hg (mX10_met 2) (fr_crV hg (q := 0) mo_X10_89 rfl ⟨_, _, rfl⟩ rfl (by decide) (by decide) (Nat.le_of_ble_eq_true rfl) dX10_copy_113 rfl) rfl (fun p8 => ?_)
              exact fr_iret hg (rty := .int) rfl dX10_copy_116 (fun h => h)
            · refine fr_iload hg 4 rfl dX10_copy_66 rfl ?_
              refine fr_if_lt hg (m := 111) dX10_copy_68 (by decide) rfl ?_ ?_
              · refine fr_aload_n hg 0 rfl dX10_copy_111 rfl ?_
                refine fr_iconst hg (v := 2) (by decide) dX10_copy_112 rfl ?_
                refine fr_ci2 hg (mX10_met 2) (fr_crV hg (q := 0) mo_X10_89 rfl ⟨_, _, rfl⟩ rfl (by decide) (by decide) (Nat.le_of_ble_eq_true rfl) dX10_copy_113 rfl) rfl (fun p10 => ?_)
                exact fr_iret hg (rty := .int) rfl dX10_copy_116 (fun h => h)
              · refine fr_iload hg 5 rfl dX10_copy_71 rfl ?_
                refine fr_if_lt hg (m := 111) dX10_copy_73 (by decide) rfl ?_ ?_
                · refine fr_aload_n hg 0 rfl dX10_copy_111 rfl ?_
                  refine fr_iconst hg (v := 2) (by decide) dX10_copy_112 rfl ?_
                  refine fr_ci2 hg (mX10_met 2) (fr_crV hg (q := 0) mo_X10_89 rfl ⟨_, _, rfl⟩ rfl (by decide) (by decide) (Nat.le_of_ble_eq_true rfl) dX10_copy_113 rfl) rfl (fun p12 => ?_)
                  exact fr_iret hg (rty := .int) rfl dX10_copy_116 (fun h => h)
                · refine fr_iload_n hg 2 rfl dX10_copy_76 rfl ?_
                  refine fr_i2l hg dX10_copy_77 rfl ?_
                  refine fr_iload hg 5 rfl dX10_copy_78 rfl ?_
                  refine fr_i2l hg dX10_copy_80 rfl ?_
                  refine fr_ladd hg dX10_copy_81 rfl ?_
                  refine fr_aload_n hg 0 rfl dX10_copy_82 rfl ?_
                  refine fr_getr hg (q := 0) (q' := 2) fo_X10_13 rfl rfl dX10_copy_83 rfl ?_
                  refine fr_iload_n hg 1 rfl dX10_copy_86 rfl ?_
                  refine fr_iaload hg (q := 2) rfl dX10_copy_87 rfl (fun x13 => ?_)
                  refine fr_i2l hg dX10_copy_88 rfl ?_
                  refine fr_lcmp hg dX10_copy_89 rfl ?_
                  refine fr_if_gt hg (m := 111) dX10_copy_90 (by decide) rfl ?_ ?_
                  · refine fr_aload_n hg 0 rfl dX10_copy_111 rfl ?_
                    refine fr_iconst hg (v := 2) (by decide) dX10_copy_112 rfl ?_
                    refine fr_ci2 hg (mX10_met 2) (fr_crV hg (q := 0) mo_X10_89 rfl ⟨_, _, rfl⟩ rfl (by decide) (by decide) (Nat.le_of_ble_eq_true rfl) dX10_copy_113 rfl) rfl (fun p15 => ?_)
                    exact fr_iret hg (rty := .int) rfl dX10_copy_116 (fun h => h)
                  · refine fr_iload hg 4 rfl dX10_copy_93 rfl ?_
                    refine fr_i2l hg dX10_copy_95 rfl ?_
                    refine fr_iload hg 5 rfl dX10_copy_96 rfl ?_
                    refine fr_i2l hg dX10_copy_98 rfl ?_
                    refine fr_ladd hg dX10_copy_99 rfl ?_
                    refine fr_aload_n hg 0 rfl dX10_copy_100 rfl ?_
                    refine fr_getr hg (q := 0) (q' := 2) fo_X10_13 rfl rfl dX10_copy_101 rfl ?_
                    refine fr_iload_n hg 3 rfl dX10_copy_104 rfl ?_
                    refine fr_iaload hg (q := 2) rfl dX10_copy_105 rfl (fun x16 => ?_)
                    refine fr_i2l hg dX10_copy_106 rfl ?_
                    refine fr_lcmp hg dX10_copy_107 rfl ?_
                    refine fr_if_le hg (m := 117) dX10_copy_108 (by decide) rfl ?_ ?_
                    · refine fr_iconst hg (v := 0) (by decide) dX10_copy_117 rfl ?_
                      refine fr_istore hg (ls' := [(0, .ref (fr_ad w 0)), (1, .int a1), (2, .int a2), (3, .int a3), (4, .int a4), (5, .int a5), (6, .int 0)]) dX10_copy_118 (by decide) rfl rfl ?_
                      refine fr_lp (fun (b17 : Int32 × fr_St) => [(0, .ref (fr_ad w 0)), (1, .int a1), (2, .int a2), (3, .int a3), (4, .int a4), (5, .int a5), (6, .int b17.1)]) (fun b17 => b17.2) 154 (fun (c18 : fr_St) => [(0, .ref (fr_ad w 0)), (3, .int a3), (4, .int a4), (5, .int a5)]) (fun c18 => c18) [0, 1, 2, 3, 4, 5, 6] rfl rfl (fun b17 => ?_) (fun c18 => ?_)
                      · show fr_V g w _ (zX10_copy_L120 a1 a2 a3 a4 a5 b17.1 b17.2) _ _ _ _ _
                        unfold zX10_copy_L120
                        refine fr_iload hg 6 rfl dX10_copy_120 rfl ?_
                        refine fr_iload hg 5 rfl dX10_copy_122 rfl ?_
                        refine fr_icmp_ge hg (m := 154) dX10_copy_124 (by decide) rfl ?_ ?_
                        · exact fr_leaf [0, 3, 4, 5] rfl (fun h => h)
                        · refine fr_aload_n hg 0 rfl dX10_copy_127 rfl ?_
                          refine fr_getr hg (q := 0) (q' := 4) fo_X10_19 rfl rfl dX10_copy_128 rfl ?_
                          refine fr_iload hg 6 rfl dX10_copy_131 rfl ?_
                          refine fr_aload_n hg 0 rfl dX10_copy_133 rfl ?_
                          refine fr_getr hg (q := 0) (q' := 3) fo_X10_16 rfl rfl dX10_copy_134 rfl ?_
                          refine fr_bipush hg (v := 60) (by decide) dX10_copy_137 rfl ?_
                          refine fr_iload_n hg 1 rfl dX10_copy_139 rfl ?_
                          refine fr_imul hg dX10_copy_140 rfl ?_
                          refine fr_iload_n hg 2 rfl dX10_copy_141 rfl ?_
                          refine fr_iadd hg dX10_copy_142 rfl ?_
                          refine fr_iload hg 6 rfl dX10_copy_143 rfl ?_
                          refine fr_iadd hg dX10_copy_145 rfl ?_
                          refine fr_iaload hg (q := 3) rfl dX10_copy_146 rfl (fun x19 => ?_)
                          refine fr_iastore hg (q := 4) rfl dX10_copy_147 rfl (fun σ20 => ?_)
                          refine fr_iinc hg 6 (v := b17.1 + 1) (ls' := [(0, .ref (fr_ad w 0)), (1, .int a1), (2, .int a2), (3, .int a3), (4, .int a4), (5, .int a5), (6, .int (b17.1 + 1))]) dX10_copy_148 rfl rfl (by decide) rfl rfl ?_
                          refine fr_goto hg (n := 120) dX10_copy_151 (by decide) ?_
                          exact fr_leaf [0, 1, 2, 3, 4, 5, 6] rfl (fun h => h)
                      refine fr_iconst hg (v := 0) (by decide) dX10_copy_154 rfl ?_
                      refine fr_istore hg (ls' := [(0, .ref (fr_ad w 0)), (3, .int a3), (4, .int a4), (5, .int a5), (6, .int 0)]) dX10_copy_155 (by decide) rfl rfl ?_
                      refine fr_lp (fun (b21 : Int32 × fr_St) => [(0, .ref (fr_ad w 0)), (3, .int a3), (4, .int a4), (5, .int a5), (6, .int b21.1)]) (fun b21 => b21.2) 192 (fun (c22 : fr_St) => []) (fun c22 => c22) [0, 1, 2, 3, 4] rfl rfl (fun b21 => ?_) (fun c22 => ?_)
                      · show fr_V g w _ (zX10_copy_L157 a3 a4 a5 b21.1 b21.2) _ _ _ _ _
                        unfold zX10_copy_L157
                        refine fr_iload hg 4 rfl dX10_copy_157 rfl ?_
                        refine fr_iload hg 3 rfl dX10_copy_159 rfl ?_
                        refine fr_icmp_ge hg (m := 192) dX10_copy_161 (by decide) rfl ?_ ?_
                        · exact fr_leaf [] rfl (fun h => h)
                        · refine fr_aload_n hg 0 rfl dX10_copy_164 rfl ?_
                          refine fr_getr hg (q := 0) (q' := 3) fo_X10_16 rfl rfl dX10_copy_165 rfl ?_
                          refine fr_bipush hg (v := 60) (by decide) dX10_copy_168 rfl ?_
                          refine fr_iload_n hg 1 rfl dX10_copy_170 rfl ?_
                          refine fr_imul hg dX10_copy_171 rfl ?_
                          refine fr_iload hg 2 rfl dX10_copy_172 rfl ?_
                          refine fr_iadd hg dX10_copy_174 rfl ?_
                          refine fr_iload hg 4 rfl dX10_copy_175 rfl ?_
                          refine fr_iadd hg dX10_copy_177 rfl ?_
                          refine fr_aload_n hg 0 rfl dX10_copy_178 rfl ?_
                          refine fr_getr hg (q := 0) (q' := 4) fo_X10_19 rfl rfl dX10_copy_179 rfl ?_
                          refine fr_iload hg 4 rfl dX10_copy_182 rfl ?_
                          refine fr_iaload hg (q := 4) rfl dX10_copy_184 rfl (fun x23 => ?_)
                          refine fr_iastore hg (q := 3) rfl dX10_copy_185 rfl (fun σ24 => ?_)
                          refine fr_iinc hg 4 (v := b21.1 + 1) (ls' := [(0, .ref (fr_ad w 0)), (3, .int a3), (4, .int a4), (5, .int a5), (6, .int (b21.1 + 1))]) dX10_copy_186 rfl rfl (by decide) rfl rfl ?_
                          refine fr_goto hg (n := 157) dX10_copy_189 (by decide) ?_
                          exact fr_leaf [0, 1, 2, 3, 4] rfl (fun h => h)
                      refine fr_iconst hg (v := 1) (by decide) dX10_copy_192 rfl ?_
                      exact fr_iret hg (rty := .int) rfl dX10_copy_193 (fun h => h)
                    · refine fr_aload_n hg 0 rfl dX10_copy_111 rfl ?_
                      refine fr_iconst hg (v := 2) (by decide) dX10_copy_112 rfl ?_
                      refine fr_ci2 hg (mX10_met 2) (fr_crV hg (q := 0) mo_X10_89 rfl ⟨_, _, rfl⟩ rfl (by decide) (by decide) (Nat.le_of_ble_eq_true rfl) dX10_copy_113 rfl) rfl (fun p26 => ?_)
                      exact fr_iret hg (rty := .int) rfl dX10_copy_116 (fun h => h)
          · refine fr_aload_n hg 0 rfl dX10_copy_56 rfl ?_
            refine fr_iconst hg (v := 4) (by decide) dX10_copy_57 rfl ?_
            refine fr_ci2 hg (mX10_met 4) (fr_crV hg (q := 0) mo_X10_89 rfl ⟨_, _, rfl⟩ rfl (by decide) (by decide) (Nat.le_of_ble_eq_true rfl) dX10_copy_58 rfl) rfl (fun p28 => ?_)
            exact fr_iret hg (rty := .int) rfl dX10_copy_61 (fun h => h)
        · refine fr_aload_n hg 0 rfl dX10_copy_35 rfl ?_
          refine fr_iconst hg (v := 1) (by decide) dX10_copy_36 rfl ?_
          refine fr_ci2 hg (mX10_met 1) (fr_crV hg (q := 0) mo_X10_89 rfl ⟨_, _, rfl⟩ rfl (by decide) (by decide) (Nat.le_of_ble_eq_true rfl) dX10_copy_37 rfl) rfl (fun p30 => ?_)
          exact fr_iret hg (rty := .int) rfl dX10_copy_40 (fun h => h)
    · refine fr_bipush hg (v := (-2)) (by decide) dX10_copy_14 rfl ?_
      exact fr_iret hg (rty := .int) rfl dX10_copy_16 (fun h => h)
noncomputable def zX10_write_L57 (k2 : Int32) (k4 : Int32) (v5 : Int32) (σ : fr_St) : Option ((Int32 × fr_St) ⊕ (fr_St)) :=
  if k4 ≤ v5 then some (.inr σ) else (fr_al 4 σ 1 k2).bind (fun x1 => (fr_al 32 σ 16 v5).bind (fun x2 => (fr_as 240 σ 3 ((60 * k2) + v5) (zX10_cut x1 x2)).bind (fun σ3 => some (.inl (v5 + 1, σ3)))))
noncomputable def zX10_write (σ : fr_St) (a1 : Int32) (a2 : Int32) : Option (Int32 × fr_St) :=
  if zX10_isTool a1 = 0 then some ((-2), σ) else if zX10_isSheet a2 = 0 then some ((-2), σ) else (fr_al 4 σ 1 a2).bind (fun x1 => if 0 ≤ x1 then (zX10_scrapesAll σ).bind (fun σ2 => (zX10_findFirst σ2 a1).bind (fun p4 => (fr_al 4 p4.2 2 a2).bind (fun x5 => (fr_loop (fun (b6 : Int32 × fr_St) => zX10_write_L57 a2 (zX10_lesser x5 p4.1) b6.1 b6.2) fr_fu (0, p4.2)).bind (fun (c7 : fr_St) => some (zX10_lesser x5 p4.1, c7))))) else (zX10_met σ 1).bind (fun p12 => some (p12.1, p12.2)))
set_option maxRecDepth 100000 in
set_option maxHeartbeats 4000000 in
theorem mX10_write (a1 : Int32) (a2 : Int32) : fr_MI2 yX10_write cX10_write 6 .int 5 113 fr_shM (fun w => [.ref (fr_ad w 0), .int a1, .int a2]) (fun σ => zX10_write σ a1 a2) := by
  refine fr_mkI2 (by decide) (fun w => Nat.le_of_ble_eq_true rfl) (fun g w σ hg => ?_)
  show fr_V g w 6 (zX10_write σ a1 a2) _ 0 [(0, .ref (fr_ad w 0)), (1, .int a1), (2, .int a2)] [] σ
  unfold zX10_write
  refine fr_iload_n hg 1 rfl dX10_write_0 rfl ?_
  refine fr_ci0 hg (mX10_isTool a1) (fr_crS hg mo_X10_143 rfl (by decide) (by decide) (Nat.le_of_ble_eq_true rfl) dX10_write_1 rfl) rfl ?_
  refine fr_if_eq hg (m := 14) dX10_write_4 (by decide) rfl ?_ ?_
  · refine fr_bipush hg (v := (-2)) (by decide) dX10_write_14 rfl ?_
    exact fr_iret hg (rty := .int) rfl dX10_write_16 (fun h => h)
  · refine fr_iload_n hg 2 rfl dX10_write_7 rfl ?_
    refine fr_ci0 hg (mX10_isSheet a2) (fr_crS hg mo_X10_83 rfl (by decide) (by decide) (Nat.le_of_ble_eq_true rfl) dX10_write_8 rfl) rfl ?_
    refine fr_if_ne hg (m := 17) dX10_write_11 (by decide) rfl ?_ ?_
    · refine fr_aload_n hg 0 rfl dX10_write_17 rfl ?_
      refine fr_getr hg (q := 0) (q' := 1) fo_X10_7 rfl rfl dX10_write_18 rfl ?_
      refine fr_iload_n hg 2 rfl dX10_write_21 rfl ?_
      refine fr_iaload hg (q := 1) rfl dX10_write_22 rfl (fun x1 => ?_)
      refine fr_if_ge hg (m := 32) dX10_write_23 (by decide) rfl ?_ ?_
      · refine fr_aload_n hg 0 rfl dX10_write_32 rfl ?_
        refine fr_cv2 hg mX10_scrapesAll (fr_crV hg (q := 0) mo_X10_174 rfl ⟨_, _, rfl⟩ rfl (by decide) (by decide) (Nat.le_of_ble_eq_true rfl) dX10_write_33 rfl) rfl (fun σ2 => ?_)
        refine fr_aload_n hg 0 rfl dX10_write_36 rfl ?_
        refine fr_iload_n hg 1 rfl dX10_write_37 rfl ?_
        refine fr_ci2 hg (mX10_findFirst a1) (fr_crV hg (q := 0) mo_X10_199 rfl ⟨_, _, rfl⟩ rfl (by decide) (by decide) (Nat.le_of_ble_eq_true rfl) dX10_write_38 rfl) rfl (fun p4 => ?_)
        refine fr_istore_n hg (ls' := [(0, .ref (fr_ad w 0)), (1, .int a1), (2, .int a2), (3, .int p4.1)]) dX10_write_41 rfl (by decide) rfl rfl ?_
        refine fr_aload_n hg 0 rfl dX10_write_42 rfl ?_
        refine fr_getr hg (q := 0) (q' := 2) fo_X10_13 rfl rfl dX10_write_43 rfl ?_
        refine fr_iload_n hg 2 rfl dX10_write_46 rfl ?_
        refine fr_iaload hg (q := 2) rfl dX10_write_47 rfl (fun x5 => ?_)
        refine fr_iload_n hg 3 rfl dX10_write_48 rfl ?_
        refine fr_ci0 hg (mX10_lesser x5 p4.1) (fr_crS hg mo_X10_207 rfl (by decide) (by decide) (Nat.le_of_ble_eq_true rfl) dX10_write_49 rfl) rfl ?_
        refine fr_istore hg (ls' := [(0, .ref (fr_ad w 0)), (1, .int a1), (2, .int a2), (3, .int p4.1), (4, .int (zX10_lesser x5 p4.1))]) dX10_write_52 (by decide) rfl rfl ?_
        refine fr_iconst hg (v := 0) (by decide) dX10_write_54 rfl ?_
        refine fr_istore hg (ls' := [(0, .ref (fr_ad w 0)), (1, .int a1), (2, .int a2), (3, .int p4.1), (4, .int (zX10_lesser x5 p4.1)), (5, .int 0)]) dX10_write_55 (by decide) rfl rfl ?_
        refine fr_lp (fun (b6 : Int32 × fr_St) => [(0, .ref (fr_ad w 0)), (2, .int a2), (4, .int (zX10_lesser x5 p4.1)), (5, .int b6.1)]) (fun b6 => b6.2) 98 (fun (c7 : fr_St) => [(4, .int (zX10_lesser x5 p4.1))]) (fun c7 => c7) [0, 2, 4, 5] rfl rfl (fun b6 => ?_) (fun c7 => ?_)
        · show fr_V g w _ (zX10_write_L57 a2 (zX10_lesser x5 p4.1) b6.1 b6.2) _ _ _ _ _
          unfold zX10_write_L57
          refine fr_iload hg 3 rfl dX10_write_57 rfl ?_
          refine fr_iload hg 2 rfl dX10_write_59 rfl ?_
          refine fr_icmp_ge hg (m := 98) dX10_write_61 (by decide) rfl ?_ ?_
          · exact fr_leaf [2] rfl (fun h => h)
          · refine fr_aload_n hg 0 rfl dX10_write_64 rfl ?_
            refine fr_getr hg (q := 0) (q' := 3) fo_X10_16 rfl rfl dX10_write_65 rfl ?_
            refine fr_bipush hg (v := 60) (by decide) dX10_write_68 rfl ?_
            refine fr_iload_n hg 1 rfl dX10_write_70 rfl ?_
            refine fr_imul hg dX10_write_71 rfl ?_
            refine fr_iload hg 3 rfl dX10_write_72 rfl ?_
            refine fr_iadd hg dX10_write_74 rfl ?_
            refine fr_aload_n hg 0 rfl dX10_write_75 rfl ?_
            refine fr_getr hg (q := 0) (q' := 1) fo_X10_7 rfl rfl dX10_write_76 rfl ?_
            refine fr_iload_n hg 1 rfl dX10_write_79 rfl ?_
            refine fr_iaload hg (q := 1) rfl dX10_write_80 rfl (fun x8 => ?_)
            refine fr_aload_n hg 0 rfl dX10_write_81 rfl ?_
            refine fr_getr hg (q := 0) (q' := 16) fo_X10_56 rfl rfl dX10_write_82 rfl ?_
            refine fr_iload hg 3 rfl dX10_write_85 rfl ?_
            refine fr_iaload hg (q := 16) rfl dX10_write_87 rfl (fun x9 => ?_)
            refine fr_ci0 hg (mX10_cut x8 x9) (fr_crS hg mo_X10_97 rfl (by decide) (by decide) (Nat.le_of_ble_eq_true rfl) dX10_write_88 rfl) rfl ?_
            refine fr_iastore hg (q := 3) rfl dX10_write_91 rfl (fun σ10 => ?_)
            refine fr_iinc hg 3 (v := b6.1 + 1) (ls' := [(0, .ref (fr_ad w 0)), (2, .int a2), (4, .int (zX10_lesser x5 p4.1)), (5, .int (b6.1 + 1))]) dX10_write_92 rfl rfl (by decide) rfl rfl ?_
            refine fr_goto hg (n := 57) dX10_write_95 (by decide) ?_
            exact fr_leaf [0, 1, 2, 3] rfl (fun h => h)
        refine fr_iload hg 0 rfl dX10_write_98 rfl ?_
        exact fr_iret hg (rty := .int) rfl dX10_write_100 (fun h => h)
      · refine fr_aload_n hg 0 rfl dX10_write_26 rfl ?_
        refine fr_iconst hg (v := 1) (by decide) dX10_write_27 rfl ?_
        refine fr_ci2 hg (mX10_met 1) (fr_crV hg (q := 0) mo_X10_89 rfl ⟨_, _, rfl⟩ rfl (by decide) (by decide) (Nat.le_of_ble_eq_true rfl) dX10_write_28 rfl) rfl (fun p12 => ?_)
        exact fr_iret hg (rty := .int) rfl dX10_write_31 (fun h => h)
    · refine fr_bipush hg (v := (-2)) (by decide) dX10_write_14 rfl ?_
      exact fr_iret hg (rty := .int) rfl dX10_write_16 (fun h => h)
noncomputable def zX10_count_L87 (σ : fr_St) (v2 : Int32) (v3 : Int32) : Option ((Int32 × Int32) ⊕ (Int32)) :=
  if 32 ≤ v3 then some (.inr v2) else (fr_al 32 σ 8 v3).bind (fun x1 => some (.inl (v2 + x1, v3 + 1)))
noncomputable def zX10_count (σ : fr_St) (a1 : Int32) : Option (Int32 × fr_St) :=
  (zX10_scrapesAll σ).bind (fun σ1 => if a1 = 0 then some (σ1 0 11, σ1) else if a1 = 1 then some (σ1 0 14, σ1) else if a1 = 2 then (fr_al 2 σ1 6 (a1 - 2)).bind (fun x2 => some (x2, σ1)) else if a1 = 3 then (fr_al 2 σ1 6 (a1 - 2)).bind (fun x3 => some (x3, σ1)) else if a1 = 4 then some (σ1 0 19, σ1) else if a1 = 5 then some (σ1 0 23, σ1) else if a1 = 6 then (fr_loop (fun (b4 : Int32 × Int32) => zX10_count_L87 σ1 b4.1 b4.2) fr_fu (0, 0)).bind (fun (c5 : Int32) => some (c5, σ1)) else if a1 = 7 then some (σ1 0 27, σ1) else if a1 = 8 then some (σ1 0 4, σ1) else some ((-2), σ1))
set_option maxRecDepth 100000 in
set_option maxHeartbeats 4000000 in
theorem mX10_count (a1 : Int32) : fr_MI2 yX10_count cX10_count 4 .int 5 113 fr_shM (fun w => [.ref (fr_ad w 0), .int a1]) (fun σ => zX10_count σ a1) := by
  refine fr_mkI2 (by decide) (fun w => Nat.le_of_ble_eq_true rfl) (fun g w σ hg => ?_)
  show fr_V g w 4 (zX10_count σ a1) _ 0 [(0, .ref (fr_ad w 0)), (1, .int a1)] [] σ
  unfold zX10_count
  refine fr_iconst hg (v := 0) (by decide) dX10_count_0 rfl ?_
  refine fr_istore_n hg (ls' := [(0, .ref (fr_ad w 0)), (1, .int a1), (2, .int 0)]) dX10_count_1 rfl (by decide) rfl rfl ?_
  refine fr_aload_n hg 0 rfl dX10_count_2 rfl ?_
  refine fr_cv2 hg mX10_scrapesAll (fr_crV hg (q := 0) mo_X10_174 rfl ⟨_, _, rfl⟩ rfl (by decide) (by decide) (Nat.le_of_ble_eq_true rfl) dX10_count_3 rfl) rfl (fun σ1 => ?_)
  refine fr_iload_n hg 1 rfl dX10_count_6 rfl ?_
  refine fr_case (fun h => ?_) (fun h0 => ?_)
  · refine fr_tbl hg (m := 56) h dX10_count_7 (by decide) (by decide) rfl (by decide) ?_
    refine fr_aload_n hg 0 rfl dX10_count_56 rfl ?_
    refine fr_geti hg (q := 0) fo_X10_107 rfl rfl dX10_count_57 rfl ?_
    exact fr_iret hg (rty := .int) rfl dX10_count_60 (fun h => h)
  refine fr_case (fun h => ?_) (fun h1 => ?_)
  · refine fr_tbl hg (m := 61) h dX10_count_7 (by decide) (by decide) rfl (by decide) ?_
    refine fr_aload_n hg 0 rfl dX10_count_61 rfl ?_
    refine fr_geti hg (q := 0) fo_X10_128 rfl rfl dX10_count_62 rfl ?_
    exact fr_iret hg (rty := .int) rfl dX10_count_65 (fun h => h)
  refine fr_case (fun h => ?_) (fun h2 => ?_)
  · refine fr_tbl hg (m := 66) h dX10_count_7 (by decide) (by decide) rfl (by decide) ?_
    refine fr_aload_n hg 0 rfl dX10_count_66 rfl ?_
    refine fr_getr hg (q := 0) (q' := 6) fo_X10_25 rfl rfl dX10_count_67 rfl ?_
    refine fr_iload_n hg 1 rfl dX10_count_70 rfl ?_
    refine fr_iconst hg (v := 2) (by decide) dX10_count_71 rfl ?_
    refine fr_isub hg dX10_count_72 rfl ?_
    refine fr_iaload hg (q := 6) rfl dX10_count_73 rfl (fun x2 => ?_)
    exact fr_iret hg (rty := .int) rfl dX10_count_74 (fun h => h)
  refine fr_case (fun h => ?_) (fun h3 => ?_)
  · refine fr_tbl hg (m := 66) h dX10_count_7 (by decide) (by decide) rfl (by decide) ?_
    refine fr_aload_n hg 0 rfl dX10_count_66 rfl ?_
    refine fr_getr hg (q := 0) (q' := 6) fo_X10_25 rfl rfl dX10_count_67 rfl ?_
    refine fr_iload_n hg 1 rfl dX10_count_70 rfl ?_
    refine fr_iconst hg (v := 2) (by decide) dX10_count_71 rfl ?_
    refine fr_isub hg dX10_count_72 rfl ?_
    refine fr_iaload hg (q := 6) rfl dX10_count_73 rfl (fun x3 => ?_)
    exact fr_iret hg (rty := .int) rfl dX10_count_74 (fun h => h)
  refine fr_case (fun h => ?_) (fun h4 => ?_)
  · refine fr_tbl hg (m := 75) h dX10_count_7 (by decide) (by decide) rfl (by decide) ?_
    refine fr_aload_n hg 0 rfl dX10_count_75 rfl ?_
    refine fr_geti hg (q := 0) fo_X10_158 rfl rfl dX10_count_76 rfl ?_
    exact fr_iret hg (rty := .int) rfl dX10_count_79 (fun h => h)
  refine fr_case (fun h => ?_) (fun h5 => ?_)
  · refine fr_tbl hg (m := 80) h dX10_count_7 (by decide) (by decide) rfl (by decide) ?_
    refine fr_aload_n hg 0 rfl dX10_count_80 rfl ?_
    refine fr_geti hg (q := 0) fo_X10_164 rfl rfl dX10_count_81 rfl ?_
    exact fr_iret hg (rty := .int) rfl dX10_count_84 (fun h => h)
  refine fr_case (fun h => ?_) (fun h6 => ?_)
  · refine fr_tbl hg (m := 85) h dX10_count_7 (by decide) (by decide) rfl (by decide) ?_
    refine fr_iconst hg (v := 0) (by decide) dX10_count_85 rfl ?_
    refine fr_istore_n hg (ls' := [(0, .ref (fr_ad w 0)), (1, .int a1), (2, .int 0), (3, .int 0)]) dX10_count_86 rfl (by decide) rfl rfl ?_
    refine fr_lp (fun (b4 : Int32 × Int32) => [(0, .ref (fr_ad w 0)), (2, .int b4.1), (3, .int b4.2)]) (fun b4 => σ1) 108 (fun (c5 : Int32) => [(2, .int c5)]) (fun c5 => σ1) [0, 2, 3] rfl rfl (fun b4 => ?_) (fun c5 => ?_)
    · show fr_V g w _ (zX10_count_L87 σ1 b4.1 b4.2) _ _ _ _ _
      unfold zX10_count_L87
      refine fr_iload_n hg 2 rfl dX10_count_87 rfl ?_
      refine fr_bipush hg (v := 32) (by decide) dX10_count_88 rfl ?_
      refine fr_icmp_ge hg (m := 108) dX10_count_90 (by decide) rfl ?_ ?_
      · exact fr_leaf [1] rfl (fun h => h)
      · refine fr_iload_n hg 1 rfl dX10_count_93 rfl ?_
        refine fr_aload_n hg 0 rfl dX10_count_94 rfl ?_
        refine fr_getr hg (q := 0) (q' := 8) fo_X10_32 rfl rfl dX10_count_95 rfl ?_
        refine fr_iload_n hg 2 rfl dX10_count_98 rfl ?_
        refine fr_iaload hg (q := 8) rfl dX10_count_99 rfl (fun x6 => ?_)
        refine fr_iadd hg dX10_count_100 rfl ?_
        refine fr_istore_n hg (ls' := [(0, .ref (fr_ad w 0)), (2, .int (b4.1 + x6)), (3, .int b4.2)]) dX10_count_101 rfl (by decide) rfl rfl ?_
        refine fr_iinc hg 2 (v := b4.2 + 1) (ls' := [(0, .ref (fr_ad w 0)), (2, .int (b4.1 + x6)), (3, .int (b4.2 + 1))]) dX10_count_102 rfl rfl (by decide) rfl rfl ?_
        refine fr_goto hg (n := 87) dX10_count_105 (by decide) ?_
        exact fr_leaf [0, 1, 2] rfl (fun h => h)
    refine fr_iload_n hg 0 rfl dX10_count_108 rfl ?_
    exact fr_iret hg (rty := .int) rfl dX10_count_109 (fun h => h)
  refine fr_case (fun h => ?_) (fun h7 => ?_)
  · refine fr_tbl hg (m := 110) h dX10_count_7 (by decide) (by decide) rfl (by decide) ?_
    refine fr_aload_n hg 0 rfl dX10_count_110 rfl ?_
    refine fr_geti hg (q := 0) fo_X10_254 rfl rfl dX10_count_111 rfl ?_
    exact fr_iret hg (rty := .int) rfl dX10_count_114 (fun h => h)
  refine fr_case (fun h => ?_) (fun h8 => ?_)
  · refine fr_tbl hg (m := 115) h dX10_count_7 (by decide) (by decide) rfl (by decide) ?_
    refine fr_aload_n hg 0 rfl dX10_count_115 rfl ?_
    refine fr_geti hg (q := 0) fo_X10_77 rfl rfl dX10_count_116 rfl ?_
    exact fr_iret hg (rty := .int) rfl dX10_count_119 (fun h => h)
  have h0 := lv_neT (a := 0) h0 rfl
  have h1 := lv_neT (a := 1) h1 rfl
  have h2 := lv_neT (a := 2) h2 rfl
  have h3 := lv_neT (a := 3) h3 rfl
  have h4 := lv_neT (a := 4) h4 rfl
  have h5 := lv_neT (a := 5) h5 rfl
  have h6 := lv_neT (a := 6) h6 rfl
  have h7 := lv_neT (a := 7) h7 rfl
  have h8 := lv_neT (a := 8) h8 rfl
  refine fr_tbd hg (m := 120) dX10_count_7 (by omega) (by decide) ?_
  refine fr_bipush hg (v := (-2)) (by decide) dX10_count_120 rfl ?_
  exact fr_iret hg (rty := .int) rfl dX10_count_122 (fun h => h)
