noncomputable def zX10_scrapes_L12 (k1 : Int32) (v2 : Int32) (σ : fr_St) : Option ((Int32 × fr_St) ⊕ (fr_St)) :=
  if 32 ≤ v2 then some (.inr σ) else (fr_al 32 σ 8 v2).bind (fun x1 => (fr_as 32 σ 9 v2 x1).bind (fun σ2 => some (.inl (v2 + 1, σ2))))
noncomputable def zX10_scrapes_L38 (k1 : Int32) (v2 : Int32) (σ : fr_St) : Option ((Int32 × fr_St) ⊕ (fr_St)) :=
  if 4 ≤ v2 then some (.inr σ) else (fr_al 4 σ 12 v2).bind (fun x1 => (fr_as 4 σ 15 v2 x1).bind (fun σ2 => some (.inl (v2 + 1, σ2))))
noncomputable def zX10_scrapes_L78 (k1 : Int32) (v2 : Int32) (σ : fr_St) : Option ((Int32 × fr_St) ⊕ (fr_St)) :=
  if k1 ≤ v2 then some (.inr σ) else (fr_al 80 σ 14 (2 * v2)).bind (fun x1 => (fr_al 80 σ 14 ((2 * v2) + 1)).bind (fun x2 => (fr_al 32 σ 9 x2).bind (fun x3 => if x3 ≤ 0 then if σ 0 24 = (-1) then some (.inl (v2 + 1, (fr_put σ 0 24 v2))) else some (.inl (v2 + 1, (fr_put σ 0 24 (σ 0 24)))) else (fr_al 4 σ 15 x1).bind (fun x4 => (fr_al 32 σ 9 x2).bind (fun x5 => if x4 < x5 then if σ 0 24 = (-1) then some (.inl (v2 + 1, (fr_put σ 0 24 v2))) else some (.inl (v2 + 1, (fr_put σ 0 24 (σ 0 24)))) else (fr_al 32 σ 9 x2).bind (fun x6 => (fr_al 4 σ 11 x1).bind (fun x7 => (fr_al 4 (fr_put σ 0 22 ((σ 0 22) + (x6 * x7))) 15 x1).bind (fun x8 => (fr_al 32 (fr_put σ 0 22 ((σ 0 22) + (x6 * x7))) 9 x2).bind (fun x9 => (fr_as 4 (fr_put σ 0 22 ((σ 0 22) + (x6 * x7))) 15 x1 (x8 - x9)).bind (fun σ10 => (fr_as 32 σ10 9 x2 0).bind (fun σ11 => some (.inl (v2 + 1, (fr_put σ11 0 23 ((σ11 0 23) + 1)))))))))))))))
noncomputable def zX10_scrapes (σ : fr_St) (a1 : Int32) : Option (fr_St) :=
  (zX10_readsPane σ).bind (fun p2 => (zX10_readsRoad p2.2).bind (fun p4 => (fr_loop (fun (b5 : Int32 × fr_St) => zX10_scrapes_L12 a1 b5.1 b5.2) fr_fu (0, p4.2)).bind (fun (c6 : fr_St) => (fr_loop (fun (b9 : Int32 × fr_St) => zX10_scrapes_L38 a1 b9.1 b9.2) fr_fu (0, c6)).bind (fun (c10 : fr_St) => (fr_loop (fun (b13 : Int32 × fr_St) => zX10_scrapes_L78 a1 b13.1 b13.2) fr_fu (0, (fr_put (fr_put (fr_put c10 0 22 0) 0 23 0) 0 24 (-1)))).bind (fun (c14 : fr_St) => some c14)))))
set_option maxRecDepth 100000 in
set_option maxHeartbeats 4000000 in
theorem mX10_scrapes (a1 : Int32) : fr_MV2 yX10_scrapes cX10_scrapes 5 3 69 fr_shM (fun w => [.ref (fr_ad w 0), .int a1]) (fun σ => zX10_scrapes σ a1) := by
  refine fr_mkV2 (by decide) (fun w => Nat.le_of_ble_eq_true rfl) (fun g w σ hg => ?_)
  show fr_V g w 5 (zX10_scrapes σ a1) _ 0 [(0, .ref (fr_ad w 0)), (1, .int a1)] [] σ
  unfold zX10_scrapes
  refine fr_aload_n hg 0 rfl dX10_scrapes_0 rfl ?_
  refine fr_ci2 hg mX10_readsPane (fr_crV hg (q := 0) mo_X10_134 rfl ⟨_, _, rfl⟩ rfl (by decide) (by decide) (Nat.le_of_ble_eq_true rfl) dX10_scrapes_1 rfl) rfl (fun p2 => ?_)
  refine fr_pop hg rfl dX10_scrapes_4 rfl ?_
  refine fr_aload_n hg 0 rfl dX10_scrapes_5 rfl ?_
  refine fr_ci2 hg mX10_readsRoad (fr_crV hg (q := 0) mo_X10_138 rfl ⟨_, _, rfl⟩ rfl (by decide) (by decide) (Nat.le_of_ble_eq_true rfl) dX10_scrapes_6 rfl) rfl (fun p4 => ?_)
  refine fr_pop hg rfl dX10_scrapes_9 rfl ?_
  refine fr_iconst hg (v := 0) (by decide) dX10_scrapes_10 rfl ?_
  refine fr_istore_n hg (ls' := [(0, .ref (fr_ad w 0)), (1, .int a1), (2, .int 0)]) dX10_scrapes_11 rfl (by decide) rfl rfl ?_
  refine fr_lp (fun (b5 : Int32 × fr_St) => [(0, .ref (fr_ad w 0)), (1, .int a1), (2, .int b5.1)]) (fun b5 => b5.2) 36 (fun (c6 : fr_St) => [(0, .ref (fr_ad w 0)), (1, .int a1)]) (fun c6 => c6) [0, 1, 2] rfl rfl (fun b5 => ?_) (fun c6 => ?_)
  · show fr_V g w _ (zX10_scrapes_L12 a1 b5.1 b5.2) _ _ _ _ _
    unfold zX10_scrapes_L12
    refine fr_iload_n hg 2 rfl dX10_scrapes_12 rfl ?_
    refine fr_bipush hg (v := 32) (by decide) dX10_scrapes_13 rfl ?_
    refine fr_icmp_ge hg (m := 36) dX10_scrapes_15 (by decide) rfl ?_ ?_
    · exact fr_leaf [0, 1] rfl (fun h => h)
    · refine fr_aload_n hg 0 rfl dX10_scrapes_18 rfl ?_
      refine fr_getr hg (q := 0) (q' := 9) fo_X10_35 rfl rfl dX10_scrapes_19 rfl ?_
      refine fr_iload_n hg 2 rfl dX10_scrapes_22 rfl ?_
      refine fr_aload_n hg 0 rfl dX10_scrapes_23 rfl ?_
      refine fr_getr hg (q := 0) (q' := 8) fo_X10_32 rfl rfl dX10_scrapes_24 rfl ?_
      refine fr_iload_n hg 2 rfl dX10_scrapes_27 rfl ?_
      refine fr_iaload hg (q := 8) rfl dX10_scrapes_28 rfl (fun x7 => ?_)
      refine fr_iastore hg (q := 9) rfl dX10_scrapes_29 rfl (fun σ8 => ?_)
      refine fr_iinc hg 2 (v := b5.1 + 1) (ls' := [(0, .ref (fr_ad w 0)), (1, .int a1), (2, .int (b5.1 + 1))]) dX10_scrapes_30 rfl rfl (by decide) rfl rfl ?_
      refine fr_goto hg (n := 12) dX10_scrapes_33 (by decide) ?_
      exact fr_leaf [0, 1, 2] rfl (fun h => h)
  refine fr_iconst hg (v := 0) (by decide) dX10_scrapes_36 rfl ?_
  refine fr_istore_n hg (ls' := [(0, .ref (fr_ad w 0)), (1, .int a1), (2, .int 0)]) dX10_scrapes_37 rfl (by decide) rfl rfl ?_
  refine fr_lp (fun (b9 : Int32 × fr_St) => [(0, .ref (fr_ad w 0)), (1, .int a1), (2, .int b9.1)]) (fun b9 => b9.2) 61 (fun (c10 : fr_St) => [(0, .ref (fr_ad w 0)), (1, .int a1)]) (fun c10 => c10) [0, 1, 2] rfl rfl (fun b9 => ?_) (fun c10 => ?_)
  · show fr_V g w _ (zX10_scrapes_L38 a1 b9.1 b9.2) _ _ _ _ _
    unfold zX10_scrapes_L38
    refine fr_iload_n hg 2 rfl dX10_scrapes_38 rfl ?_
    refine fr_iconst hg (v := 4) (by decide) dX10_scrapes_39 rfl ?_
    refine fr_icmp_ge hg (m := 61) dX10_scrapes_40 (by decide) rfl ?_ ?_
    · exact fr_leaf [0, 1] rfl (fun h => h)
    · refine fr_aload_n hg 0 rfl dX10_scrapes_43 rfl ?_
      refine fr_getr hg (q := 0) (q' := 15) fo_X10_53 rfl rfl dX10_scrapes_44 rfl ?_
      refine fr_iload_n hg 2 rfl dX10_scrapes_47 rfl ?_
      refine fr_aload_n hg 0 rfl dX10_scrapes_48 rfl ?_
      refine fr_getr hg (q := 0) (q' := 12) fo_X10_44 rfl rfl dX10_scrapes_49 rfl ?_
      refine fr_iload_n hg 2 rfl dX10_scrapes_52 rfl ?_
      refine fr_iaload hg (q := 12) rfl dX10_scrapes_53 rfl (fun x11 => ?_)
      refine fr_iastore hg (q := 15) rfl dX10_scrapes_54 rfl (fun σ12 => ?_)
      refine fr_iinc hg 2 (v := b9.1 + 1) (ls' := [(0, .ref (fr_ad w 0)), (1, .int a1), (2, .int (b9.1 + 1))]) dX10_scrapes_55 rfl rfl (by decide) rfl rfl ?_
      refine fr_goto hg (n := 38) dX10_scrapes_58 (by decide) ?_
      exact fr_leaf [0, 1, 2] rfl (fun h => h)
  refine fr_aload_n hg 0 rfl dX10_scrapes_61 rfl ?_
  refine fr_iconst hg (v := 0) (by decide) dX10_scrapes_62 rfl ?_
  refine fr_puti hg (q := 0) fp_X10_161 rfl rfl rfl rfl dX10_scrapes_63 rfl ?_
  refine fr_aload_n hg 0 rfl dX10_scrapes_66 rfl ?_
  refine fr_iconst hg (v := 0) (by decide) dX10_scrapes_67 rfl ?_
  refine fr_puti hg (q := 0) fp_X10_164 rfl rfl rfl rfl dX10_scrapes_68 rfl ?_
  refine fr_aload_n hg 0 rfl dX10_scrapes_71 rfl ?_
  refine fr_iconst hg (v := (-1)) (by decide) dX10_scrapes_72 rfl ?_
  refine fr_puti hg (q := 0) fp_X10_167 rfl rfl rfl rfl dX10_scrapes_73 rfl ?_
  refine fr_iconst hg (v := 0) (by decide) dX10_scrapes_76 rfl ?_
  refine fr_istore_n hg (ls' := [(0, .ref (fr_ad w 0)), (1, .int a1), (2, .int 0)]) dX10_scrapes_77 rfl (by decide) rfl rfl ?_
  refine fr_lp (fun (b13 : Int32 × fr_St) => [(0, .ref (fr_ad w 0)), (1, .int a1), (2, .int b13.1)]) (fun b13 => b13.2) 216 (fun (c14 : fr_St) => []) (fun c14 => c14) [0, 1, 2] rfl rfl (fun b13 => ?_) (fun c14 => ?_)
  · show fr_V g w _ (zX10_scrapes_L78 a1 b13.1 b13.2) _ _ _ _ _
    unfold zX10_scrapes_L78
    refine fr_iload_n hg 2 rfl dX10_scrapes_78 rfl ?_
    refine fr_iload_n hg 1 rfl dX10_scrapes_79 rfl ?_
    refine fr_icmp_ge hg (m := 216) dX10_scrapes_80 (by decide) rfl ?_ ?_
    · exact fr_leaf [] rfl (fun h => h)
    · refine fr_aload_n hg 0 rfl dX10_scrapes_83 rfl ?_
      refine fr_getr hg (q := 0) (q' := 14) fo_X10_50 rfl rfl dX10_scrapes_84 rfl ?_
      refine fr_iconst hg (v := 2) (by decide) dX10_scrapes_87 rfl ?_
      refine fr_iload_n hg 2 rfl dX10_scrapes_88 rfl ?_
      refine fr_imul hg dX10_scrapes_89 rfl ?_
      refine fr_iaload hg (q := 14) rfl dX10_scrapes_90 rfl (fun x15 => ?_)
      refine fr_istore_n hg (ls' := [(0, .ref (fr_ad w 0)), (1, .int a1), (2, .int b13.1), (3, .int x15)]) dX10_scrapes_91 rfl (by decide) rfl rfl ?_
      refine fr_aload_n hg 0 rfl dX10_scrapes_92 rfl ?_
      refine fr_getr hg (q := 0) (q' := 14) fo_X10_50 rfl rfl dX10_scrapes_93 rfl ?_
      refine fr_iconst hg (v := 2) (by decide) dX10_scrapes_96 rfl ?_
      refine fr_iload_n hg 2 rfl dX10_scrapes_97 rfl ?_
      refine fr_imul hg dX10_scrapes_98 rfl ?_
      refine fr_iconst hg (v := 1) (by decide) dX10_scrapes_99 rfl ?_
      refine fr_iadd hg dX10_scrapes_100 rfl ?_
      refine fr_iaload hg (q := 14) rfl dX10_scrapes_101 rfl (fun x16 => ?_)
      refine fr_istore hg (ls' := [(0, .ref (fr_ad w 0)), (1, .int a1), (2, .int b13.1), (3, .int x15), (4, .int x16)]) dX10_scrapes_102 (by decide) rfl rfl ?_
      refine fr_aload_n hg 0 rfl dX10_scrapes_104 rfl ?_
      refine fr_getr hg (q := 0) (q' := 9) fo_X10_35 rfl rfl dX10_scrapes_105 rfl ?_
      refine fr_iload hg 4 rfl dX10_scrapes_108 rfl ?_
      refine fr_iaload hg (q := 9) rfl dX10_scrapes_110 rfl (fun x17 => ?_)
      refine fr_if_le hg (m := 190) dX10_scrapes_111 (by decide) rfl ?_ ?_
      · refine fr_aload_n hg 0 rfl dX10_scrapes_190 rfl ?_
        refine fr_aload_n hg 0 rfl dX10_scrapes_191 rfl ?_
        refine fr_geti hg (q := 0) fo_X10_167 rfl rfl dX10_scrapes_192 rfl ?_
        refine fr_iconst hg (v := (-1)) (by decide) dX10_scrapes_195 rfl ?_
        refine fr_icmp_ne hg (m := 203) dX10_scrapes_196 (by decide) rfl ?_ ?_
        · refine fr_aload_n hg 0 rfl dX10_scrapes_203 rfl ?_
          refine fr_geti hg (q := 0) fo_X10_167 rfl rfl dX10_scrapes_204 rfl ?_
          refine fr_puti hg (q := 0) fp_X10_167 rfl rfl rfl rfl dX10_scrapes_207 rfl ?_
          refine fr_iinc hg 2 (v := b13.1 + 1) (ls' := [(0, .ref (fr_ad w 0)), (1, .int a1), (2, .int (b13.1 + 1)), (3, .int x15), (4, .int x16)]) dX10_scrapes_210 rfl rfl (by decide) rfl rfl ?_
          refine fr_goto hg (n := 78) dX10_scrapes_213 (by decide) ?_
          exact fr_leaf [0, 1, 2] rfl (fun h => h)
        · refine fr_iload_n hg 2 rfl dX10_scrapes_199 rfl ?_
          refine fr_goto hg (n := 207) dX10_scrapes_200 (by decide) ?_
          refine fr_puti hg (q := 0) fp_X10_167 rfl rfl rfl rfl dX10_scrapes_207 rfl ?_
          refine fr_iinc hg 2 (v := b13.1 + 1) (ls' := [(0, .ref (fr_ad w 0)), (1, .int a1), (2, .int (b13.1 + 1)), (3, .int x15), (4, .int x16)]) dX10_scrapes_210 rfl rfl (by decide) rfl rfl ?_
          refine fr_goto hg (n := 78) dX10_scrapes_213 (by decide) ?_
          exact fr_leaf [0, 1, 2] rfl (fun h => h)
      · refine fr_aload_n hg 0 rfl dX10_scrapes_114 rfl ?_
        refine fr_getr hg (q := 0) (q' := 15) fo_X10_53 rfl rfl dX10_scrapes_115 rfl ?_
        refine fr_iload_n hg 3 rfl dX10_scrapes_118 rfl ?_
        refine fr_iaload hg (q := 15) rfl dX10_scrapes_119 rfl (fun x18 => ?_)
        refine fr_aload_n hg 0 rfl dX10_scrapes_120 rfl ?_
        refine fr_getr hg (q := 0) (q' := 9) fo_X10_35 rfl rfl dX10_scrapes_121 rfl ?_
        refine fr_iload hg 4 rfl dX10_scrapes_124 rfl ?_
        refine fr_iaload hg (q := 9) rfl dX10_scrapes_126 rfl (fun x19 => ?_)
        refine fr_icmp_lt hg (m := 190) dX10_scrapes_127 (by decide) rfl ?_ ?_
        · refine fr_aload_n hg 0 rfl dX10_scrapes_190 rfl ?_
          refine fr_aload_n hg 0 rfl dX10_scrapes_191 rfl ?_
          refine fr_geti hg (q := 0) fo_X10_167 rfl rfl dX10_scrapes_192 rfl ?_
          refine fr_iconst hg (v := (-1)) (by decide) dX10_scrapes_195 rfl ?_
          refine fr_icmp_ne hg (m := 203) dX10_scrapes_196 (by decide) rfl ?_ ?_
          · refine fr_aload_n hg 0 rfl dX10_scrapes_203 rfl ?_
            refine fr_geti hg (q := 0) fo_X10_167 rfl rfl dX10_scrapes_204 rfl ?_
            refine fr_puti hg (q := 0) fp_X10_167 rfl rfl rfl rfl dX10_scrapes_207 rfl ?_
            refine fr_iinc hg 2 (v := b13.1 + 1) (ls' := [(0, .ref (fr_ad w 0)), (1, .int a1), (2, .int (b13.1 + 1)), (3, .int x15), (4, .int x16)]) dX10_scrapes_210 rfl rfl (by decide) rfl rfl ?_
            refine fr_goto hg (n := 78) dX10_scrapes_213 (by decide) ?_
            exact fr_leaf [0, 1, 2] rfl (fun h => h)
          · refine fr_iload_n hg 2 rfl dX10_scrapes_199 rfl ?_
            refine fr_goto hg (n := 207) dX10_scrapes_200 (by decide) ?_
            refine fr_puti hg (q := 0) fp_X10_167 rfl rfl rfl rfl dX10_scrapes_207 rfl ?_
            refine fr_iinc hg 2 (v := b13.1 + 1) (ls' := [(0, .ref (fr_ad w 0)), (1, .int a1), (2, .int (b13.1 + 1)), (3, .int x15), (4, .int x16)]) dX10_scrapes_210 rfl rfl (by decide) rfl rfl ?_
            refine fr_goto hg (n := 78) dX10_scrapes_213 (by decide) ?_
            exact fr_leaf [0, 1, 2] rfl (fun h => h)
        · refine fr_aload_n hg 0 rfl dX10_scrapes_130 rfl ?_
          refine fr_dup hg rfl dX10_scrapes_131 rfl ?_
          refine fr_geti hg (q := 0) fo_X10_161 rfl rfl dX10_scrapes_132 rfl ?_
          refine fr_aload_n hg 0 rfl dX10_scrapes_135 rfl ?_
          refine fr_getr hg (q := 0) (q' := 9) fo_X10_35 rfl rfl dX10_scrapes_136 rfl ?_
          refine fr_iload hg 4 rfl dX10_scrapes_139 rfl ?_
          refine fr_iaload hg (q := 9) rfl dX10_scrapes_141 rfl (fun x20 => ?_)
          refine fr_aload_n hg 0 rfl dX10_scrapes_142 rfl ?_
          refine fr_getr hg (q := 0) (q' := 11) fo_X10_41 rfl rfl dX10_scrapes_143 rfl ?_
          refine fr_iload_n hg 3 rfl dX10_scrapes_146 rfl ?_
          refine fr_iaload hg (q := 11) rfl dX10_scrapes_147 rfl (fun x21 => ?_)
          refine fr_imul hg dX10_scrapes_148 rfl ?_
          refine fr_iadd hg dX10_scrapes_149 rfl ?_
          refine fr_puti hg (q := 0) fp_X10_161 rfl rfl rfl rfl dX10_scrapes_150 rfl ?_
          refine fr_aload_n hg 0 rfl dX10_scrapes_153 rfl ?_
          refine fr_getr hg (q := 0) (q' := 15) fo_X10_53 rfl rfl dX10_scrapes_154 rfl ?_
          refine fr_iload_n hg 3 rfl dX10_scrapes_157 rfl ?_
          refine fr_dup2 hg rfl rfl dX10_scrapes_158 rfl ?_
          refine fr_iaload hg (q := 15) rfl dX10_scrapes_159 rfl (fun x22 => ?_)
          refine fr_aload_n hg 0 rfl dX10_scrapes_160 rfl ?_
          refine fr_getr hg (q := 0) (q' := 9) fo_X10_35 rfl rfl dX10_scrapes_161 rfl ?_
          refine fr_iload hg 4 rfl dX10_scrapes_164 rfl ?_
          refine fr_iaload hg (q := 9) rfl dX10_scrapes_166 rfl (fun x23 => ?_)
          refine fr_isub hg dX10_scrapes_167 rfl ?_
          refine fr_iastore hg (q := 15) rfl dX10_scrapes_168 rfl (fun σ24 => ?_)
          refine fr_aload_n hg 0 rfl dX10_scrapes_169 rfl ?_
          refine fr_getr hg (q := 0) (q' := 9) fo_X10_35 rfl rfl dX10_scrapes_170 rfl ?_
          refine fr_iload hg 4 rfl dX10_scrapes_173 rfl ?_
          refine fr_iconst hg (v := 0) (by decide) dX10_scrapes_175 rfl ?_
          refine fr_iastore hg (q := 9) rfl dX10_scrapes_176 rfl (fun σ25 => ?_)
          refine fr_aload_n hg 0 rfl dX10_scrapes_177 rfl ?_
          refine fr_dup hg rfl dX10_scrapes_178 rfl ?_
          refine fr_geti hg (q := 0) fo_X10_164 rfl rfl dX10_scrapes_179 rfl ?_
          refine fr_iconst hg (v := 1) (by decide) dX10_scrapes_182 rfl ?_
          refine fr_iadd hg dX10_scrapes_183 rfl ?_
          refine fr_puti hg (q := 0) fp_X10_164 rfl rfl rfl rfl dX10_scrapes_184 rfl ?_
          refine fr_goto hg (n := 210) dX10_scrapes_187 (by decide) ?_
          refine fr_iinc hg 2 (v := b13.1 + 1) (ls' := [(0, .ref (fr_ad w 0)), (1, .int a1), (2, .int (b13.1 + 1)), (3, .int x15), (4, .int x16)]) dX10_scrapes_210 rfl rfl (by decide) rfl rfl ?_
          refine fr_goto hg (n := 78) dX10_scrapes_213 (by decide) ?_
          exact fr_leaf [0, 1, 2] rfl (fun h => h)
  exact fr_vret hg dX10_scrapes_216 (fun h => h)
noncomputable def zX10_scrapesAll (σ : fr_St)  : Option (fr_St) :=
  (zX10_scrapes σ (σ 0 19)).bind (fun σ1 => some σ1)
set_option maxRecDepth 100000 in
set_option maxHeartbeats 4000000 in
theorem mX10_scrapesAll  : fr_MV2 yX10_scrapesAll cX10_scrapesAll 1 4 93 fr_shM (fun w => [.ref (fr_ad w 0)]) (fun σ => zX10_scrapesAll σ) := by
  refine fr_mkV2 (by decide) (fun w => Nat.le_of_ble_eq_true rfl) (fun g w σ hg => ?_)
  show fr_V g w 1 (zX10_scrapesAll σ) _ 0 [(0, .ref (fr_ad w 0))] [] σ
  unfold zX10_scrapesAll
  refine fr_aload_n hg 0 rfl dX10_scrapesAll_0 rfl ?_
  refine fr_aload_n hg 0 rfl dX10_scrapesAll_1 rfl ?_
  refine fr_geti hg (q := 0) fo_X10_158 rfl rfl dX10_scrapesAll_2 rfl ?_
  refine fr_cv2 hg (mX10_scrapes (σ 0 19)) (fr_crV hg (q := 0) mo_X10_170 rfl ⟨_, _, rfl⟩ rfl (by decide) (by decide) (Nat.le_of_ble_eq_true rfl) dX10_scrapesAll_5 rfl) rfl (fun σ1 => ?_)
  exact fr_vret hg dX10_scrapesAll_8 (fun h => h)
noncomputable def zX10_judged (σ : fr_St)  : Option (Int32 × fr_St) :=
  (zX10_scrapesAll σ).bind (fun σ1 => some (σ1 0 24, σ1))
set_option maxRecDepth 100000 in
set_option maxHeartbeats 4000000 in
theorem mX10_judged  : fr_MI2 yX10_judged cX10_judged 1 .int 5 113 fr_shM (fun w => [.ref (fr_ad w 0)]) (fun σ => zX10_judged σ) := by
  refine fr_mkI2 (by decide) (fun w => Nat.le_of_ble_eq_true rfl) (fun g w σ hg => ?_)
  show fr_V g w 1 (zX10_judged σ) _ 0 [(0, .ref (fr_ad w 0))] [] σ
  unfold zX10_judged
  refine fr_aload_n hg 0 rfl dX10_judged_0 rfl ?_
  refine fr_cv2 hg mX10_scrapesAll (fr_crV hg (q := 0) mo_X10_174 rfl ⟨_, _, rfl⟩ rfl (by decide) (by decide) (Nat.le_of_ble_eq_true rfl) dX10_judged_1 rfl) rfl (fun σ1 => ?_)
  refine fr_aload_n hg 0 rfl dX10_judged_4 rfl ?_
  refine fr_geti hg (q := 0) fo_X10_167 rfl rfl dX10_judged_5 rfl ?_
  exact fr_iret hg (rty := .int) rfl dX10_judged_8 (fun h => h)
noncomputable def zX10_thick (σ : fr_St) (a1 : Int32) (a2 : Int32) : Option (Int32 × fr_St) :=
  if zX10_in a1.toInt64 0 ((σ 0 19).toInt64) = 0 then some ((-2), σ) else if zX10_isAnyCell a2 = 0 then some ((-2), σ) else (zX10_scrapes σ a1).bind (fun σ1 => (fr_al 32 σ1 7 a2).bind (fun x2 => if x2 = 0 then some ((-2), σ1) else (fr_al 32 σ1 9 a2).bind (fun x3 => some (x3, σ1))))
set_option maxRecDepth 100000 in
set_option maxHeartbeats 4000000 in
theorem mX10_thick (a1 : Int32) (a2 : Int32) : fr_MI2 yX10_thick cX10_thick 3 .int 4 93 fr_shM (fun w => [.ref (fr_ad w 0), .int a1, .int a2]) (fun σ => zX10_thick σ a1 a2) := by
  refine fr_mkI2 (by decide) (fun w => Nat.le_of_ble_eq_true rfl) (fun g w σ hg => ?_)
  show fr_V g w 3 (zX10_thick σ a1 a2) _ 0 [(0, .ref (fr_ad w 0)), (1, .int a1), (2, .int a2)] [] σ
  unfold zX10_thick
  refine fr_iload_n hg 1 rfl dX10_thick_0 rfl ?_
  refine fr_i2l hg dX10_thick_1 rfl ?_
  refine fr_lconst hg (v := 0) (by decide) dX10_thick_2 rfl ?_
  refine fr_aload_n hg 0 rfl dX10_thick_3 rfl ?_
  refine fr_geti hg (q := 0) fo_X10_158 rfl rfl dX10_thick_4 rfl ?_
  refine fr_i2l hg dX10_thick_7 rfl ?_
  refine fr_ci0 hg (mX10_in a1.toInt64 0 ((σ 0 19).toInt64)) (fr_crS hg mo_X10_73 rfl (by decide) (by decide) (Nat.le_of_ble_eq_true rfl) dX10_thick_8 rfl) rfl ?_
  refine fr_if_eq hg (m := 21) dX10_thick_11 (by decide) rfl ?_ ?_
  · refine fr_bipush hg (v := (-2)) (by decide) dX10_thick_21 rfl ?_
    exact fr_iret hg (rty := .int) rfl dX10_thick_23 (fun h => h)
  · refine fr_iload_n hg 2 rfl dX10_thick_14 rfl ?_
    refine fr_ci0 hg (mX10_isAnyCell a2) (fr_crS hg mo_X10_152 rfl (by decide) (by decide) (Nat.le_of_ble_eq_true rfl) dX10_thick_15 rfl) rfl ?_
    refine fr_if_ne hg (m := 24) dX10_thick_18 (by decide) rfl ?_ ?_
    · refine fr_aload_n hg 0 rfl dX10_thick_24 rfl ?_
      refine fr_iload_n hg 1 rfl dX10_thick_25 rfl ?_
      refine fr_cv2 hg (mX10_scrapes a1) (fr_crV hg (q := 0) mo_X10_170 rfl ⟨_, _, rfl⟩ rfl (by decide) (by decide) (Nat.le_of_ble_eq_true rfl) dX10_thick_26 rfl) rfl (fun σ1 => ?_)
      refine fr_aload_n hg 0 rfl dX10_thick_29 rfl ?_
      refine fr_getr hg (q := 0) (q' := 7) fo_X10_28 rfl rfl dX10_thick_30 rfl ?_
      refine fr_iload_n hg 2 rfl dX10_thick_33 rfl ?_
      refine fr_baload hg (q := 7) rfl dX10_thick_34 rfl (fun x2 => ?_)
      refine fr_if_eq hg (m := 47) dX10_thick_35 (by decide) rfl ?_ ?_
      · refine fr_bipush hg (v := (-2)) (by decide) dX10_thick_47 rfl ?_
        exact fr_iret hg (rty := .int) rfl dX10_thick_49 (fun h => h)
      · refine fr_aload_n hg 0 rfl dX10_thick_38 rfl ?_
        refine fr_getr hg (q := 0) (q' := 9) fo_X10_35 rfl rfl dX10_thick_39 rfl ?_
        refine fr_iload_n hg 2 rfl dX10_thick_42 rfl ?_
        refine fr_iaload hg (q := 9) rfl dX10_thick_43 rfl (fun x3 => ?_)
        refine fr_goto hg (n := 49) dX10_thick_44 (by decide) ?_
        exact fr_iret hg (rty := .int) rfl dX10_thick_49 (fun h => h)
    · refine fr_bipush hg (v := (-2)) (by decide) dX10_thick_21 rfl ?_
      exact fr_iret hg (rty := .int) rfl dX10_thick_23 (fun h => h)
noncomputable def zX10_riskOf_L4 (σ : fr_St) (k1 : Int32) (v2 : Int32) (v3 : Int32) : Option ((Int32 × Int32) ⊕ (Int32)) :=
  if 32 ≤ v3 then some (.inr v2) else (fr_al 32 σ 9 v3).bind (fun x1 => if x1 ≤ 0 then some (.inl (v2 + 0, v3 + 1)) else (fr_al 40 σ 10 k1).bind (fun x2 => (fr_al 160 σ 13 ((32 * x2) + v3)).bind (fun x3 => some (.inl (v2 + x3, v3 + 1)))))
noncomputable def zX10_riskOf (σ : fr_St) (a1 : Int32) : Option (Int32) :=
  (fr_loop (fun (b1 : Int32 × Int32) => zX10_riskOf_L4 σ a1 b1.1 b1.2) fr_fu (0, 0)).bind (fun (c2 : Int32) => some c2)
set_option maxRecDepth 100000 in
set_option maxHeartbeats 4000000 in
theorem mX10_riskOf (a1 : Int32) : fr_MI1 yX10_riskOf cX10_riskOf 4 .int 0 0 fr_shM (fun w => [.ref (fr_ad w 0), .int a1]) (fun σ => zX10_riskOf σ a1) := by
  refine fr_mkI1 (by decide) (fun w => Nat.le_of_ble_eq_true rfl) (fun g w σ hg => ?_)
  show fr_V g w 4 (zX10_riskOf σ a1) _ 0 [(0, .ref (fr_ad w 0)), (1, .int a1)] [] σ
  unfold zX10_riskOf
  refine fr_iconst hg (v := 0) (by decide) dX10_riskOf_0 rfl ?_
  refine fr_istore_n hg (ls' := [(0, .ref (fr_ad w 0)), (1, .int a1), (2, .int 0)]) dX10_riskOf_1 rfl (by decide) rfl rfl ?_
  refine fr_iconst hg (v := 0) (by decide) dX10_riskOf_2 rfl ?_
  refine fr_istore_n hg (ls' := [(0, .ref (fr_ad w 0)), (1, .int a1), (2, .int 0), (3, .int 0)]) dX10_riskOf_3 rfl (by decide) rfl rfl ?_
  refine fr_lp (fun (b1 : Int32 × Int32) => [(0, .ref (fr_ad w 0)), (1, .int a1), (2, .int b1.1), (3, .int b1.2)]) (fun b1 => σ) 48 (fun (c2 : Int32) => [(2, .int c2)]) (fun c2 => σ) [0, 1, 2, 3] rfl rfl (fun b1 => ?_) (fun c2 => ?_)
  · show fr_V g w _ (zX10_riskOf_L4 σ a1 b1.1 b1.2) _ _ _ _ _
    unfold zX10_riskOf_L4
    refine fr_iload_n hg 3 rfl dX10_riskOf_4 rfl ?_
    refine fr_bipush hg (v := 32) (by decide) dX10_riskOf_5 rfl ?_
    refine fr_icmp_ge hg (m := 48) dX10_riskOf_7 (by decide) rfl ?_ ?_
    · exact fr_leaf [2] rfl (fun h => h)
    · refine fr_iload_n hg 2 rfl dX10_riskOf_10 rfl ?_
      refine fr_aload_n hg 0 rfl dX10_riskOf_11 rfl ?_
      refine fr_getr hg (q := 0) (q' := 9) fo_X10_35 rfl rfl dX10_riskOf_12 rfl ?_
      refine fr_iload_n hg 3 rfl dX10_riskOf_15 rfl ?_
      refine fr_iaload hg (q := 9) rfl dX10_riskOf_16 rfl (fun x3 => ?_)
      refine fr_if_le hg (m := 39) dX10_riskOf_17 (by decide) rfl ?_ ?_
      · refine fr_iconst hg (v := 0) (by decide) dX10_riskOf_39 rfl ?_
        refine fr_iadd hg dX10_riskOf_40 rfl ?_
        refine fr_istore_n hg (ls' := [(0, .ref (fr_ad w 0)), (1, .int a1), (2, .int (b1.1 + 0)), (3, .int b1.2)]) dX10_riskOf_41 rfl (by decide) rfl rfl ?_
        refine fr_iinc hg 3 (v := b1.2 + 1) (ls' := [(0, .ref (fr_ad w 0)), (1, .int a1), (2, .int (b1.1 + 0)), (3, .int (b1.2 + 1))]) dX10_riskOf_42 rfl rfl (by decide) rfl rfl ?_
        refine fr_goto hg (n := 4) dX10_riskOf_45 (by decide) ?_
        exact fr_leaf [0, 1, 2, 3] rfl (fun h => h)
      · refine fr_aload_n hg 0 rfl dX10_riskOf_20 rfl ?_
        refine fr_getr hg (q := 0) (q' := 13) fo_X10_47 rfl rfl dX10_riskOf_21 rfl ?_
        refine fr_bipush hg (v := 32) (by decide) dX10_riskOf_24 rfl ?_
        refine fr_aload_n hg 0 rfl dX10_riskOf_26 rfl ?_
        refine fr_getr hg (q := 0) (q' := 10) fo_X10_38 rfl rfl dX10_riskOf_27 rfl ?_
        refine fr_iload_n hg 1 rfl dX10_riskOf_30 rfl ?_
        refine fr_iaload hg (q := 10) rfl dX10_riskOf_31 rfl (fun x4 => ?_)
        refine fr_imul hg dX10_riskOf_32 rfl ?_
        refine fr_iload_n hg 3 rfl dX10_riskOf_33 rfl ?_
        refine fr_iadd hg dX10_riskOf_34 rfl ?_
        refine fr_iaload hg (q := 13) rfl dX10_riskOf_35 rfl (fun x5 => ?_)
        refine fr_goto hg (n := 40) dX10_riskOf_36 (by decide) ?_
        refine fr_iadd hg dX10_riskOf_40 rfl ?_
        refine fr_istore_n hg (ls' := [(0, .ref (fr_ad w 0)), (1, .int a1), (2, .int (b1.1 + x5)), (3, .int b1.2)]) dX10_riskOf_41 rfl (by decide) rfl rfl ?_
        refine fr_iinc hg 3 (v := b1.2 + 1) (ls' := [(0, .ref (fr_ad w 0)), (1, .int a1), (2, .int (b1.1 + x5)), (3, .int (b1.2 + 1))]) dX10_riskOf_42 rfl rfl (by decide) rfl rfl ?_
        refine fr_goto hg (n := 4) dX10_riskOf_45 (by decide) ?_
        exact fr_leaf [0, 1, 2, 3] rfl (fun h => h)
  refine fr_iload_n hg 0 rfl dX10_riskOf_48 rfl ?_
  exact fr_iret hg (rty := .int) rfl dX10_riskOf_49 (fun h => h)
noncomputable def zX10_riskOfRoad_L4 (σ : fr_St) (v1 : Int32) (v2 : Int32) : Option ((Int32 × Int32) ⊕ (Int32)) :=
  if σ 0 14 ≤ v2 then some (.inr v1) else (zX10_riskOf σ v2).bind (fun r1 => some (.inl (v1 + r1, v2 + 1)))
noncomputable def zX10_riskOfRoad (σ : fr_St)  : Option (Int32) :=
  (fr_loop (fun (b1 : Int32 × Int32) => zX10_riskOfRoad_L4 σ b1.1 b1.2) fr_fu (0, 0)).bind (fun (c2 : Int32) => some c2)
set_option maxRecDepth 100000 in
set_option maxHeartbeats 4000000 in
theorem mX10_riskOfRoad  : fr_MI1 yX10_riskOfRoad cX10_riskOfRoad 3 .int 1 23 fr_shM (fun w => [.ref (fr_ad w 0)]) (fun σ => zX10_riskOfRoad σ) := by
  refine fr_mkI1 (by decide) (fun w => Nat.le_of_ble_eq_true rfl) (fun g w σ hg => ?_)
  show fr_V g w 3 (zX10_riskOfRoad σ) _ 0 [(0, .ref (fr_ad w 0))] [] σ
  unfold zX10_riskOfRoad
  refine fr_iconst hg (v := 0) (by decide) dX10_riskOfRoad_0 rfl ?_
  refine fr_istore_n hg (ls' := [(0, .ref (fr_ad w 0)), (1, .int 0)]) dX10_riskOfRoad_1 rfl (by decide) rfl rfl ?_
  refine fr_iconst hg (v := 0) (by decide) dX10_riskOfRoad_2 rfl ?_
  refine fr_istore_n hg (ls' := [(0, .ref (fr_ad w 0)), (1, .int 0), (2, .int 0)]) dX10_riskOfRoad_3 rfl (by decide) rfl rfl ?_
  refine fr_lp (fun (b1 : Int32 × Int32) => [(0, .ref (fr_ad w 0)), (1, .int b1.1), (2, .int b1.2)]) (fun b1 => σ) 26 (fun (c2 : Int32) => [(1, .int c2)]) (fun c2 => σ) [0, 1, 2] rfl rfl (fun b1 => ?_) (fun c2 => ?_)
  · show fr_V g w _ (zX10_riskOfRoad_L4 σ b1.1 b1.2) _ _ _ _ _
    unfold zX10_riskOfRoad_L4
    refine fr_iload_n hg 2 rfl dX10_riskOfRoad_4 rfl ?_
    refine fr_aload_n hg 0 rfl dX10_riskOfRoad_5 rfl ?_
    refine fr_geti hg (q := 0) fo_X10_128 rfl rfl dX10_riskOfRoad_6 rfl ?_
    refine fr_icmp_ge hg (m := 26) dX10_riskOfRoad_9 (by decide) rfl ?_ ?_
    · exact fr_leaf [1] rfl (fun h => h)
    · refine fr_iload_n hg 1 rfl dX10_riskOfRoad_12 rfl ?_
      refine fr_aload_n hg 0 rfl dX10_riskOfRoad_13 rfl ?_
      refine fr_iload_n hg 2 rfl dX10_riskOfRoad_14 rfl ?_
      refine fr_ci1 hg (mX10_riskOf b1.2) (fr_crV hg (q := 0) mo_X10_177 rfl ⟨_, _, rfl⟩ rfl (by decide) (by decide) (Nat.le_of_ble_eq_true rfl) dX10_riskOfRoad_15 rfl) rfl (fun r3 => ?_)
      refine fr_iadd hg dX10_riskOfRoad_18 rfl ?_
      refine fr_istore_n hg (ls' := [(0, .ref (fr_ad w 0)), (1, .int (b1.1 + r3)), (2, .int b1.2)]) dX10_riskOfRoad_19 rfl (by decide) rfl rfl ?_
      refine fr_iinc hg 2 (v := b1.2 + 1) (ls' := [(0, .ref (fr_ad w 0)), (1, .int (b1.1 + r3)), (2, .int (b1.2 + 1))]) dX10_riskOfRoad_20 rfl rfl (by decide) rfl rfl ?_
      refine fr_goto hg (n := 4) dX10_riskOfRoad_23 (by decide) ?_
      exact fr_leaf [0, 1, 2] rfl (fun h => h)
  refine fr_iload_n hg 0 rfl dX10_riskOfRoad_26 rfl ?_
  exact fr_iret hg (rty := .int) rfl dX10_riskOfRoad_27 (fun h => h)
noncomputable def zX10_clear_L4 (σ : fr_St) (v1 : Int32) (v2 : Int32) : Option ((Int32 × Int32) ⊕ (Int32)) :=
  if 32 ≤ v2 then some (.inr v1) else (fr_al 32 σ 7 v2).bind (fun x1 => if x1 = 0 then some (.inl (v1 + 0, v2 + 1)) else (fr_al 32 σ 9 v2).bind (fun x2 => if x2 = 0 then some (.inl (v1 + 1, v2 + 1)) else some (.inl (v1 + 0, v2 + 1))))
noncomputable def zX10_clear (σ : fr_St)  : Option (Int32) :=
  (fr_loop (fun (b1 : Int32 × Int32) => zX10_clear_L4 σ b1.1 b1.2) fr_fu (0, 0)).bind (fun (c2 : Int32) => some c2)
set_option maxRecDepth 100000 in
set_option maxHeartbeats 4000000 in
theorem mX10_clear  : fr_MI1 yX10_clear cX10_clear 3 .int 0 0 fr_shM (fun w => [.ref (fr_ad w 0)]) (fun σ => zX10_clear σ) := by
  refine fr_mkI1 (by decide) (fun w => Nat.le_of_ble_eq_true rfl) (fun g w σ hg => ?_)
  show fr_V g w 3 (zX10_clear σ) _ 0 [(0, .ref (fr_ad w 0))] [] σ
  unfold zX10_clear
  refine fr_iconst hg (v := 0) (by decide) dX10_clear_0 rfl ?_
  refine fr_istore_n hg (ls' := [(0, .ref (fr_ad w 0)), (1, .int 0)]) dX10_clear_1 rfl (by decide) rfl rfl ?_
  refine fr_iconst hg (v := 0) (by decide) dX10_clear_2 rfl ?_
  refine fr_istore_n hg (ls' := [(0, .ref (fr_ad w 0)), (1, .int 0), (2, .int 0)]) dX10_clear_3 rfl (by decide) rfl rfl ?_
  refine fr_lp (fun (b1 : Int32 × Int32) => [(0, .ref (fr_ad w 0)), (1, .int b1.1), (2, .int b1.2)]) (fun b1 => σ) 42 (fun (c2 : Int32) => [(1, .int c2)]) (fun c2 => σ) [0, 1, 2] rfl rfl (fun b1 => ?_) (fun c2 => ?_)
  · show fr_V g w _ (zX10_clear_L4 σ b1.1 b1.2) _ _ _ _ _
    unfold zX10_clear_L4
    refine fr_iload_n hg 2 rfl dX10_clear_4 rfl ?_
    refine fr_bipush hg (v := 32) (by decide) dX10_clear_5 rfl ?_
    refine fr_icmp_ge hg (m := 42) dX10_clear_7 (by decide) rfl ?_ ?_
    · exact fr_leaf [1] rfl (fun h => h)
    · refine fr_iload_n hg 1 rfl dX10_clear_10 rfl ?_
      refine fr_aload_n hg 0 rfl dX10_clear_11 rfl ?_
      refine fr_getr hg (q := 0) (q' := 7) fo_X10_28 rfl rfl dX10_clear_12 rfl ?_
      refine fr_iload_n hg 2 rfl dX10_clear_15 rfl ?_
      refine fr_baload hg (q := 7) rfl dX10_clear_16 rfl (fun x3 => ?_)
      refine fr_if_eq hg (m := 33) dX10_clear_17 (by decide) rfl ?_ ?_
      · refine fr_iconst hg (v := 0) (by decide) dX10_clear_33 rfl ?_
        refine fr_iadd hg dX10_clear_34 rfl ?_
        refine fr_istore_n hg (ls' := [(0, .ref (fr_ad w 0)), (1, .int (b1.1 + 0)), (2, .int b1.2)]) dX10_clear_35 rfl (by decide) rfl rfl ?_
        refine fr_iinc hg 2 (v := b1.2 + 1) (ls' := [(0, .ref (fr_ad w 0)), (1, .int (b1.1 + 0)), (2, .int (b1.2 + 1))]) dX10_clear_36 rfl rfl (by decide) rfl rfl ?_
        refine fr_goto hg (n := 4) dX10_clear_39 (by decide) ?_
        exact fr_leaf [0, 1, 2] rfl (fun h => h)
      · refine fr_aload_n hg 0 rfl dX10_clear_20 rfl ?_
        refine fr_getr hg (q := 0) (q' := 9) fo_X10_35 rfl rfl dX10_clear_21 rfl ?_
        refine fr_iload_n hg 2 rfl dX10_clear_24 rfl ?_
        refine fr_iaload hg (q := 9) rfl dX10_clear_25 rfl (fun x4 => ?_)
        refine fr_if_ne hg (m := 33) dX10_clear_26 (by decide) rfl ?_ ?_
        · refine fr_iconst hg (v := 0) (by decide) dX10_clear_33 rfl ?_
          refine fr_iadd hg dX10_clear_34 rfl ?_
          refine fr_istore_n hg (ls' := [(0, .ref (fr_ad w 0)), (1, .int (b1.1 + 0)), (2, .int b1.2)]) dX10_clear_35 rfl (by decide) rfl rfl ?_
          refine fr_iinc hg 2 (v := b1.2 + 1) (ls' := [(0, .ref (fr_ad w 0)), (1, .int (b1.1 + 0)), (2, .int (b1.2 + 1))]) dX10_clear_36 rfl rfl (by decide) rfl rfl ?_
          refine fr_goto hg (n := 4) dX10_clear_39 (by decide) ?_
          exact fr_leaf [0, 1, 2] rfl (fun h => h)
        · refine fr_iconst hg (v := 1) (by decide) dX10_clear_29 rfl ?_
          refine fr_goto hg (n := 34) dX10_clear_30 (by decide) ?_
          refine fr_iadd hg dX10_clear_34 rfl ?_
          refine fr_istore_n hg (ls' := [(0, .ref (fr_ad w 0)), (1, .int (b1.1 + 1)), (2, .int b1.2)]) dX10_clear_35 rfl (by decide) rfl rfl ?_
          refine fr_iinc hg 2 (v := b1.2 + 1) (ls' := [(0, .ref (fr_ad w 0)), (1, .int (b1.1 + 1)), (2, .int (b1.2 + 1))]) dX10_clear_36 rfl rfl (by decide) rfl rfl ?_
          refine fr_goto hg (n := 4) dX10_clear_39 (by decide) ?_
          exact fr_leaf [0, 1, 2] rfl (fun h => h)
  refine fr_iload_n hg 0 rfl dX10_clear_42 rfl ?_
  exact fr_iret hg (rty := .int) rfl dX10_clear_43 (fun h => h)
noncomputable def zX10_stateOf (σ : fr_St) (a1 : Int32) (a2 : Int32) : Option (Int32 × fr_St) :=
  (zX10_scrapes σ a1).bind (fun σ1 => if a2 = 0 then some (σ1 0 22, σ1) else if a2 = 1 then (zX10_riskOfRoad σ1).bind (fun r3 => some (r3, σ1)) else (zX10_clear σ1).bind (fun r2 => some (r2, σ1)))
set_option maxRecDepth 100000 in
set_option maxHeartbeats 4000000 in
theorem mX10_stateOf (a1 : Int32) (a2 : Int32) : fr_MI2 yX10_stateOf cX10_stateOf 3 .int 4 93 fr_shM (fun w => [.ref (fr_ad w 0), .int a1, .int a2]) (fun σ => zX10_stateOf σ a1 a2) := by
  refine fr_mkI2 (by decide) (fun w => Nat.le_of_ble_eq_true rfl) (fun g w σ hg => ?_)
  show fr_V g w 3 (zX10_stateOf σ a1 a2) _ 0 [(0, .ref (fr_ad w 0)), (1, .int a1), (2, .int a2)] [] σ
  unfold zX10_stateOf
  refine fr_aload_n hg 0 rfl dX10_stateOf_0 rfl ?_
  refine fr_iload_n hg 1 rfl dX10_stateOf_1 rfl ?_
  refine fr_cv2 hg (mX10_scrapes a1) (fr_crV hg (q := 0) mo_X10_170 rfl ⟨_, _, rfl⟩ rfl (by decide) (by decide) (Nat.le_of_ble_eq_true rfl) dX10_stateOf_2 rfl) rfl (fun σ1 => ?_)
  refine fr_iload_n hg 2 rfl dX10_stateOf_5 rfl ?_
  refine fr_if_ne hg (m := 16) dX10_stateOf_6 (by decide) rfl ?_ ?_
  · refine fr_iload_n hg 2 rfl dX10_stateOf_16 rfl ?_
    refine fr_iconst hg (v := 1) (by decide) dX10_stateOf_17 rfl ?_
    refine fr_icmp_ne hg (m := 28) dX10_stateOf_18 (by decide) rfl ?_ ?_
    · refine fr_aload_n hg 0 rfl dX10_stateOf_28 rfl ?_
      refine fr_ci1 hg mX10_clear (fr_crV hg (q := 0) mo_X10_183 rfl ⟨_, _, rfl⟩ rfl (by decide) (by decide) (Nat.le_of_ble_eq_true rfl) dX10_stateOf_29 rfl) rfl (fun r2 => ?_)
      exact fr_iret hg (rty := .int) rfl dX10_stateOf_32 (fun h => h)
    · refine fr_aload_n hg 0 rfl dX10_stateOf_21 rfl ?_
      refine fr_ci1 hg mX10_riskOfRoad (fr_crV hg (q := 0) mo_X10_180 rfl ⟨_, _, rfl⟩ rfl (by decide) (by decide) (Nat.le_of_ble_eq_true rfl) dX10_stateOf_22 rfl) rfl (fun r3 => ?_)
      refine fr_goto hg (n := 32) dX10_stateOf_25 (by decide) ?_
      exact fr_iret hg (rty := .int) rfl dX10_stateOf_32 (fun h => h)
  · refine fr_aload_n hg 0 rfl dX10_stateOf_9 rfl ?_
    refine fr_geti hg (q := 0) fo_X10_161 rfl rfl dX10_stateOf_10 rfl ?_
    refine fr_goto hg (n := 32) dX10_stateOf_13 (by decide) ?_
    exact fr_iret hg (rty := .int) rfl dX10_stateOf_32 (fun h => h)
noncomputable def zX10_state (σ : fr_St) (a1 : Int32) (a2 : Int32) : Option (Int32 × fr_St) :=
  if zX10_in a1.toInt64 0 ((σ 0 19).toInt64) = 0 then some ((-2), σ) else if zX10_in a2.toInt64 0 2 = 0 then some ((-2), σ) else (zX10_stateOf σ a1 a2).bind (fun p2 => some (p2.1, p2.2))
set_option maxRecDepth 100000 in
set_option maxHeartbeats 4000000 in
theorem mX10_state (a1 : Int32) (a2 : Int32) : fr_MI2 yX10_state cX10_state 3 .int 5 115 fr_shM (fun w => [.ref (fr_ad w 0), .int a1, .int a2]) (fun σ => zX10_state σ a1 a2) := by
  refine fr_mkI2 (by decide) (fun w => Nat.le_of_ble_eq_true rfl) (fun g w σ hg => ?_)
  show fr_V g w 3 (zX10_state σ a1 a2) _ 0 [(0, .ref (fr_ad w 0)), (1, .int a1), (2, .int a2)] [] σ
  unfold zX10_state
  refine fr_iload_n hg 1 rfl dX10_state_0 rfl ?_
  refine fr_i2l hg dX10_state_1 rfl ?_
  refine fr_lconst hg (v := 0) (by decide) dX10_state_2 rfl ?_
  refine fr_aload_n hg 0 rfl dX10_state_3 rfl ?_
  refine fr_geti hg (q := 0) fo_X10_158 rfl rfl dX10_state_4 rfl ?_
  refine fr_i2l hg dX10_state_7 rfl ?_
  refine fr_ci0 hg (mX10_in a1.toInt64 0 ((σ 0 19).toInt64)) (fr_crS hg mo_X10_73 rfl (by decide) (by decide) (Nat.le_of_ble_eq_true rfl) dX10_state_8 rfl) rfl ?_
  refine fr_if_eq hg (m := 35) dX10_state_11 (by decide) rfl ?_ ?_
  · refine fr_bipush hg (v := (-2)) (by decide) dX10_state_35 rfl ?_
    exact fr_iret hg (rty := .int) rfl dX10_state_37 (fun h => h)
  · refine fr_iload_n hg 2 rfl dX10_state_14 rfl ?_
    refine fr_i2l hg dX10_state_15 rfl ?_
    refine fr_lconst hg (v := 0) (by decide) dX10_state_16 rfl ?_
    refine fr_ldc2 hg cl_X10_87 dX10_state_17 rfl ?_
    refine fr_ci0 hg (mX10_in a2.toInt64 0 2) (fr_crS hg mo_X10_73 rfl (by decide) (by decide) (Nat.le_of_ble_eq_true rfl) dX10_state_20 rfl) rfl ?_
    refine fr_if_eq hg (m := 35) dX10_state_23 (by decide) rfl ?_ ?_
    · refine fr_bipush hg (v := (-2)) (by decide) dX10_state_35 rfl ?_
      exact fr_iret hg (rty := .int) rfl dX10_state_37 (fun h => h)
    · refine fr_aload_n hg 0 rfl dX10_state_26 rfl ?_
      refine fr_iload_n hg 1 rfl dX10_state_27 rfl ?_
      refine fr_iload_n hg 2 rfl dX10_state_28 rfl ?_
      refine fr_ci2 hg (mX10_stateOf a1 a2) (fr_crV hg (q := 0) mo_X10_186 rfl ⟨_, _, rfl⟩ rfl (by decide) (by decide) (Nat.le_of_ble_eq_true rfl) dX10_state_29 rfl) rfl (fun p2 => ?_)
      refine fr_goto hg (n := 37) dX10_state_32 (by decide) ?_
      exact fr_iret hg (rty := .int) rfl dX10_state_37 (fun h => h)
noncomputable def zX10_left (σ : fr_St) (a1 : Int32) : Option (Int32 × fr_St) :=
  (zX10_scrapesAll σ).bind (fun σ1 => if zX10_isTool a1 = 0 then some ((-2), σ1) else (fr_al 4 σ1 15 a1).bind (fun x2 => some (x2, σ1)))
set_option maxRecDepth 100000 in
set_option maxHeartbeats 4000000 in
theorem mX10_left (a1 : Int32) : fr_MI2 yX10_left cX10_left 2 .int 5 113 fr_shM (fun w => [.ref (fr_ad w 0), .int a1]) (fun σ => zX10_left σ a1) := by
  refine fr_mkI2 (by decide) (fun w => Nat.le_of_ble_eq_true rfl) (fun g w σ hg => ?_)
  show fr_V g w 2 (zX10_left σ a1) _ 0 [(0, .ref (fr_ad w 0)), (1, .int a1)] [] σ
  unfold zX10_left
  refine fr_aload_n hg 0 rfl dX10_left_0 rfl ?_
  refine fr_cv2 hg mX10_scrapesAll (fr_crV hg (q := 0) mo_X10_174 rfl ⟨_, _, rfl⟩ rfl (by decide) (by decide) (Nat.le_of_ble_eq_true rfl) dX10_left_1 rfl) rfl (fun σ1 => ?_)
  refine fr_iload_n hg 1 rfl dX10_left_4 rfl ?_
  refine fr_ci0 hg (mX10_isTool a1) (fr_crS hg mo_X10_143 rfl (by decide) (by decide) (Nat.le_of_ble_eq_true rfl) dX10_left_5 rfl) rfl ?_
  refine fr_if_eq hg (m := 20) dX10_left_8 (by decide) rfl ?_ ?_
  · refine fr_bipush hg (v := (-2)) (by decide) dX10_left_20 rfl ?_
    exact fr_iret hg (rty := .int) rfl dX10_left_22 (fun h => h)
  · refine fr_aload_n hg 0 rfl dX10_left_11 rfl ?_
    refine fr_getr hg (q := 0) (q' := 15) fo_X10_53 rfl rfl dX10_left_12 rfl ?_
    refine fr_iload_n hg 1 rfl dX10_left_15 rfl ?_
    refine fr_iaload hg (q := 15) rfl dX10_left_16 rfl (fun x2 => ?_)
    refine fr_goto hg (n := 22) dX10_left_17 (by decide) ?_
    exact fr_iret hg (rty := .int) rfl dX10_left_22 (fun h => h)
