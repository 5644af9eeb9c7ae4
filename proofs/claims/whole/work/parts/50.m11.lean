noncomputable def zX10_digest_L6 (v1 : Int64) (v3 : Int32) (σ : fr_St) : Option ((Int64 × Int32 × fr_St) ⊕ (Int64 × fr_St)) :=
  if 8 ≤ v3 then some (.inr (v1, σ)) else (zX10_count σ v3).bind (fun p2 => some (.inl ((31 * v1) + p2.1.toInt64, v3 + 1, p2.2)))
noncomputable def zX10_digest_L69 (v1 : Int64) (v3 : Int32) (σ : fr_St) : Option ((Int64 × Int32 × fr_St) ⊕ (Int64 × fr_St)) :=
  if 3 ≤ v3 then some (.inr (v1, σ)) else (zX10_stateOf σ (σ 0 19) v3).bind (fun p2 => some (.inl ((31 * v1) + p2.1.toInt64, v3 + 1, p2.2)))
noncomputable def zX10_digest_L134 (k3 : Int32) (v1 : Int64) (v4 : Int32) (σ : fr_St) : Option ((Int64 × Int32 × fr_St) ⊕ (Int64 × fr_St)) :=
  if 2 ≤ v4 then some (.inr (v1, σ)) else (zX10_firstOf σ k3 v4).bind (fun p2 => some (.inl ((31 * v1) + p2.1.toInt64, v4 + 1, p2.2)))
noncomputable def zX10_digest_L164 (k3 : Int32) (v1 : Int64) (v4 : Int32) (σ : fr_St) : Option ((Int64 × Int32 × fr_St) ⊕ (Int64 × fr_St)) :=
  if 2 ≤ v4 then some (.inr (v1, σ)) else (zX10_stopOf σ k3 1 3 v4).bind (fun p2 => some (.inl ((31 * v1) + p2.1.toInt64, v4 + 1, p2.2)))
noncomputable def zX10_digest_L196 (σ : fr_St) (k3 : Int32) (v1 : Int64) (v4 : Int32) : Option ((Int64 × Int32) ⊕ (Int64)) :=
  if 2 ≤ v4 then some (.inr v1) else (zX10_warmOf σ 20 k3 v4).bind (fun r1 => some (.inl ((31 * v1) + r1.toInt64, v4 + 1)))
noncomputable def zX10_digest_L228 (σ : fr_St) (k3 : Int32) (v1 : Int64) (v4 : Int32) : Option ((Int64 × Int32) ⊕ (Int64)) :=
  if 2 ≤ v4 then some (.inr v1) else (zX10_tonightBy σ 6 1 0 k3).bind (fun r1 => (zX10_part r1.toInt64 16 v4).bind (fun r2 => some (.inl ((31 * v1) + r2, v4 + 1))))
noncomputable def zX10_digest_L99 (v1 : Int64) (v3 : Int32) (σ : fr_St) : Option ((Int64 × Int32 × fr_St) ⊕ (Int64 × fr_St)) :=
  if 4 ≤ v3 then some (.inr (v1, σ)) else (fr_al 4 σ 15 v3).bind (fun x1 => (zX10_allOf σ v3).bind (fun r2 => (fr_loop (fun (b3 : Int64 × Int32 × fr_St) => zX10_digest_L134 v3 b3.1 b3.2.1 b3.2.2) fr_fu ((31 * ((31 * v1) + x1.toInt64)) + r2.toInt64, (-1), σ)).bind (fun (c4 : Int64 × fr_St) => (fr_loop (fun (b7 : Int64 × Int32 × fr_St) => zX10_digest_L164 v3 b7.1 b7.2.1 b7.2.2) fr_fu (c4.1, 0, c4.2)).bind (fun (c8 : Int64 × fr_St) => (fr_loop (fun (b11 : Int64 × Int32) => zX10_digest_L196 c8.2 v3 b11.1 b11.2) fr_fu (c8.1, 0)).bind (fun (c12 : Int64) => (fr_loop (fun (b14 : Int64 × Int32) => zX10_digest_L228 c8.2 v3 b14.1 b14.2) fr_fu (c12, 0)).bind (fun (c15 : Int64) => some (.inl (c15, v3 + 1, c8.2))))))))
noncomputable def zX10_digest_L273 (σ : fr_St) (v1 : Int64) (v3 : Int32) : Option ((Int64 × Int32) ⊕ (Int64)) :=
  if σ 0 14 ≤ v3 then some (.inr v1) else (zX10_riskOf σ v3).bind (fun r1 => (zX10_bendOf σ v3 30 2).bind (fun r2 => some (.inl ((31 * ((31 * v1) + r1.toInt64)) + r2.toInt64, v3 + 1))))
noncomputable def zX10_digest_L333 (v1 : Int64) (v3 : Int32) : Option ((Int64 × Int32) ⊕ (Int64)) :=
  if 2 ≤ v3 then some (.inr v1) else (zX10_againOf 3 4 5 v3).bind (fun r1 => some (.inl ((31 * v1) + r1.toInt64, v3 + 1)))
noncomputable def zX10_digest_L395 (σ : fr_St) (v1 : Int64) (v4 : Int32) : Option ((Int64 × Int32) ⊕ (Int64)) :=
  if 2 ≤ v4 then some (.inr v1) else if σ 0 27 ≤ v4 then some (.inl ((31 * v1) + ((-1 : Int32).toInt64), v4 + 1)) else (fr_al 7 σ 20 v4).bind (fun x1 => some (.inl ((31 * v1) + x1.toInt64, v4 + 1)))
noncomputable def zX10_digest (σ : fr_St)  : Option (Int64 × fr_St) :=
  (fr_loop (fun (b1 : Int64 × Int32 × fr_St) => zX10_digest_L6 b1.1 b1.2.1 b1.2.2) fr_fu (17, 0, σ)).bind (fun (c2 : Int64 × fr_St) => (zX10_readsPane c2.2).bind (fun p6 => (zX10_readsRoad p6.2).bind (fun p8 => (zX10_judged p8.2).bind (fun p10 => (fr_loop (fun (b11 : Int64 × Int32 × fr_St) => zX10_digest_L69 b11.1 b11.2.1 b11.2.2) fr_fu ((31 * ((31 * ((31 * c2.1) + p6.1.toInt64)) + p8.1.toInt64)) + p10.1.toInt64, 0, p10.2)).bind (fun (c12 : Int64 × fr_St) => (fr_loop (fun (b15 : Int64 × Int32 × fr_St) => zX10_digest_L99 b15.1 b15.2.1 b15.2.2) fr_fu (c12.1, 0, c12.2)).bind (fun (c16 : Int64 × fr_St) => (fr_loop (fun (b34 : Int64 × Int32) => zX10_digest_L273 c16.2 b34.1 b34.2) fr_fu (c16.1, 0)).bind (fun (c35 : Int64) => (zX10_meltsOf c16.2 30 5).bind (fun r38 => (fr_loop (fun (b39 : Int64 × Int32) => zX10_digest_L333 b39.1 b39.2) fr_fu ((31 * c35) + r38.toInt64, 0)).bind (fun (c40 : Int64) => (zX10_cover c16.2 8 60 4 90).bind (fun p43 => (zX10_findRow p43.2).bind (fun p45 => (fr_loop (fun (b46 : Int64 × Int32) => zX10_digest_L395 p45.2 b46.1 b46.2) fr_fu ((31 * ((31 * c40) + p43.1.toInt64)) + p45.1.toInt64, 0)).bind (fun (c47 : Int64) => (zX10_facedNow p45.2).bind (fun r49 => some ((31 * c47) + r49.toInt64, p45.2))))))))))))))
set_option maxRecDepth 100000 in
set_option maxHeartbeats 4000000 in
theorem mX10_digest  : fr_ML2 yX10_digest cX10_digest 5 6 136 fr_shM (fun w => [.ref (fr_ad w 0)]) (fun σ => zX10_digest σ) := by
  refine fr_mkL2 (by decide) (fun w => Nat.le_of_ble_eq_true rfl) (fun g w σ hg => ?_)
  show fr_V g w 5 (zX10_digest σ) _ 0 [(0, .ref (fr_ad w 0))] [] σ
  unfold zX10_digest
  refine fr_ldc2 hg cl_X10_279 dX10_digest_0 rfl ?_
  refine fr_lstore_n hg (ls' := [(0, .ref (fr_ad w 0)), (1, .long 17)]) dX10_digest_3 rfl (by decide) rfl rfl ?_
  refine fr_iconst hg (v := 0) (by decide) dX10_digest_4 rfl ?_
  refine fr_istore_n hg (ls' := [(0, .ref (fr_ad w 0)), (1, .long 17), (3, .int 0)]) dX10_digest_5 rfl (by decide) rfl rfl ?_
  refine fr_lp (fun (b1 : Int64 × Int32 × fr_St) => [(0, .ref (fr_ad w 0)), (1, .long b1.1), (3, .int b1.2.1)]) (fun b1 => b1.2.2) 31 (fun (c2 : Int64 × fr_St) => [(0, .ref (fr_ad w 0)), (1, .long c2.1)]) (fun c2 => c2.2) [0, 1, 2] rfl rfl (fun b1 => ?_) (fun c2 => ?_)
  · show fr_V g w _ (zX10_digest_L6 b1.1 b1.2.1 b1.2.2) _ _ _ _ _
    unfold zX10_digest_L6
    refine fr_iload_n hg 2 rfl dX10_digest_6 rfl ?_
    refine fr_bipush hg (v := 8) (by decide) dX10_digest_7 rfl ?_
    refine fr_icmp_ge hg (m := 31) dX10_digest_9 (by decide) rfl ?_ ?_
    · exact fr_leaf [0, 1] rfl (fun h => h)
    · refine fr_ldc2 hg cl_X10_141 dX10_digest_12 rfl ?_
      refine fr_lload_n hg 1 rfl dX10_digest_15 rfl ?_
      refine fr_lmul hg dX10_digest_16 rfl ?_
      refine fr_aload_n hg 0 rfl dX10_digest_17 rfl ?_
      refine fr_iload_n hg 2 rfl dX10_digest_18 rfl ?_
      refine fr_ci2 hg (mX10_count b1.2.1) (fr_crV hg (q := 0) mo_X10_281 rfl ⟨_, _, rfl⟩ rfl (by decide) (by decide) (Nat.le_of_ble_eq_true rfl) dX10_digest_19 rfl) rfl (fun p4 => ?_)
      refine fr_i2l hg dX10_digest_22 rfl ?_
      refine fr_ladd hg dX10_digest_23 rfl ?_
      refine fr_lstore_n hg (ls' := [(0, .ref (fr_ad w 0)), (1, .long ((31 * b1.1) + p4.1.toInt64)), (3, .int b1.2.1)]) dX10_digest_24 rfl (by decide) rfl rfl ?_
      refine fr_iinc hg 2 (v := b1.2.1 + 1) (ls' := [(0, .ref (fr_ad w 0)), (1, .long ((31 * b1.1) + p4.1.toInt64)), (3, .int (b1.2.1 + 1))]) dX10_digest_25 rfl rfl (by decide) rfl rfl ?_
      refine fr_goto hg (n := 6) dX10_digest_28 (by decide) ?_
      exact fr_leaf [0, 1, 2] rfl (fun h => h)
  refine fr_ldc2 hg cl_X10_141 dX10_digest_31 rfl ?_
  refine fr_lload_n hg 1 rfl dX10_digest_34 rfl ?_
  refine fr_lmul hg dX10_digest_35 rfl ?_
  refine fr_aload_n hg 0 rfl dX10_digest_36 rfl ?_
  refine fr_ci2 hg mX10_readsPane (fr_crV hg (q := 0) mo_X10_134 rfl ⟨_, _, rfl⟩ rfl (by decide) (by decide) (Nat.le_of_ble_eq_true rfl) dX10_digest_37 rfl) rfl (fun p6 => ?_)
  refine fr_i2l hg dX10_digest_40 rfl ?_
  refine fr_ladd hg dX10_digest_41 rfl ?_
  refine fr_lstore_n hg (ls' := [(0, .ref (fr_ad w 0)), (1, .long ((31 * c2.1) + p6.1.toInt64))]) dX10_digest_42 rfl (by decide) rfl rfl ?_
  refine fr_ldc2 hg cl_X10_141 dX10_digest_43 rfl ?_
  refine fr_lload_n hg 1 rfl dX10_digest_46 rfl ?_
  refine fr_lmul hg dX10_digest_47 rfl ?_
  refine fr_aload_n hg 0 rfl dX10_digest_48 rfl ?_
  refine fr_ci2 hg mX10_readsRoad (fr_crV hg (q := 0) mo_X10_138 rfl ⟨_, _, rfl⟩ rfl (by decide) (by decide) (Nat.le_of_ble_eq_true rfl) dX10_digest_49 rfl) rfl (fun p8 => ?_)
  refine fr_i2l hg dX10_digest_52 rfl ?_
  refine fr_ladd hg dX10_digest_53 rfl ?_
  refine fr_lstore_n hg (ls' := [(0, .ref (fr_ad w 0)), (1, .long ((31 * ((31 * c2.1) + p6.1.toInt64)) + p8.1.toInt64))]) dX10_digest_54 rfl (by decide) rfl rfl ?_
  refine fr_ldc2 hg cl_X10_141 dX10_digest_55 rfl ?_
  refine fr_lload_n hg 1 rfl dX10_digest_58 rfl ?_
  refine fr_lmul hg dX10_digest_59 rfl ?_
  refine fr_aload_n hg 0 rfl dX10_digest_60 rfl ?_
  refine fr_ci2 hg mX10_judged (fr_crV hg (q := 0) mo_X10_284 rfl ⟨_, _, rfl⟩ rfl (by decide) (by decide) (Nat.le_of_ble_eq_true rfl) dX10_digest_61 rfl) rfl (fun p10 => ?_)
  refine fr_i2l hg dX10_digest_64 rfl ?_
  refine fr_ladd hg dX10_digest_65 rfl ?_
  refine fr_lstore_n hg (ls' := [(0, .ref (fr_ad w 0)), (1, .long ((31 * ((31 * ((31 * c2.1) + p6.1.toInt64)) + p8.1.toInt64)) + p10.1.toInt64))]) dX10_digest_66 rfl (by decide) rfl rfl ?_
  refine fr_iconst hg (v := 0) (by decide) dX10_digest_67 rfl ?_
  refine fr_istore_n hg (ls' := [(0, .ref (fr_ad w 0)), (1, .long ((31 * ((31 * ((31 * c2.1) + p6.1.toInt64)) + p8.1.toInt64)) + p10.1.toInt64)), (3, .int 0)]) dX10_digest_68 rfl (by decide) rfl rfl ?_
  refine fr_lp (fun (b11 : Int64 × Int32 × fr_St) => [(0, .ref (fr_ad w 0)), (1, .long b11.1), (3, .int b11.2.1)]) (fun b11 => b11.2.2) 97 (fun (c12 : Int64 × fr_St) => [(0, .ref (fr_ad w 0)), (1, .long c12.1)]) (fun c12 => c12.2) [0, 1, 2] rfl rfl (fun b11 => ?_) (fun c12 => ?_)
  · show fr_V g w _ (zX10_digest_L69 b11.1 b11.2.1 b11.2.2) _ _ _ _ _
    unfold zX10_digest_L69
    refine fr_iload_n hg 2 rfl dX10_digest_69 rfl ?_
    refine fr_iconst hg (v := 3) (by decide) dX10_digest_70 rfl ?_
    refine fr_icmp_ge hg (m := 97) dX10_digest_71 (by decide) rfl ?_ ?_
    · exact fr_leaf [0, 1] rfl (fun h => h)
    · refine fr_ldc2 hg cl_X10_141 dX10_digest_74 rfl ?_
      refine fr_lload_n hg 1 rfl dX10_digest_77 rfl ?_
      refine fr_lmul hg dX10_digest_78 rfl ?_
      refine fr_aload_n hg 0 rfl dX10_digest_79 rfl ?_
      refine fr_aload_n hg 0 rfl dX10_digest_80 rfl ?_
      refine fr_geti hg (q := 0) fo_X10_158 rfl rfl dX10_digest_81 rfl ?_
      refine fr_iload_n hg 2 rfl dX10_digest_84 rfl ?_
      refine fr_ci2 hg (mX10_stateOf (b11.2.2 0 19) b11.2.1) (fr_crV hg (q := 0) mo_X10_186 rfl ⟨_, _, rfl⟩ rfl (by decide) (by decide) (Nat.le_of_ble_eq_true rfl) dX10_digest_85 rfl) rfl (fun p14 => ?_)
      refine fr_i2l hg dX10_digest_88 rfl ?_
      refine fr_ladd hg dX10_digest_89 rfl ?_
      refine fr_lstore_n hg (ls' := [(0, .ref (fr_ad w 0)), (1, .long ((31 * b11.1) + p14.1.toInt64)), (3, .int b11.2.1)]) dX10_digest_90 rfl (by decide) rfl rfl ?_
      refine fr_iinc hg 2 (v := b11.2.1 + 1) (ls' := [(0, .ref (fr_ad w 0)), (1, .long ((31 * b11.1) + p14.1.toInt64)), (3, .int (b11.2.1 + 1))]) dX10_digest_91 rfl rfl (by decide) rfl rfl ?_
      refine fr_goto hg (n := 69) dX10_digest_94 (by decide) ?_
      exact fr_leaf [0, 1, 2] rfl (fun h => h)
  refine fr_iconst hg (v := 0) (by decide) dX10_digest_97 rfl ?_
  refine fr_istore_n hg (ls' := [(0, .ref (fr_ad w 0)), (1, .long c12.1), (3, .int 0)]) dX10_digest_98 rfl (by decide) rfl rfl ?_
  refine fr_lp (fun (b15 : Int64 × Int32 × fr_St) => [(0, .ref (fr_ad w 0)), (1, .long b15.1), (3, .int b15.2.1)]) (fun b15 => b15.2.2) 271 (fun (c16 : Int64 × fr_St) => [(0, .ref (fr_ad w 0)), (1, .long c16.1)]) (fun c16 => c16.2) [0, 1, 2] rfl rfl (fun b15 => ?_) (fun c16 => ?_)
  · show fr_V g w _ (zX10_digest_L99 b15.1 b15.2.1 b15.2.2) _ _ _ _ _
    unfold zX10_digest_L99
    refine fr_iload_n hg 2 rfl dX10_digest_99 rfl ?_
    refine fr_iconst hg (v := 4) (by decide) dX10_digest_100 rfl ?_
    refine fr_icmp_ge hg (m := 271) dX10_digest_101 (by decide) rfl ?_ ?_
    · exact fr_leaf [0, 1] rfl (fun h => h)
    · refine fr_ldc2 hg cl_X10_141 dX10_digest_104 rfl ?_
      refine fr_lload_n hg 1 rfl dX10_digest_107 rfl ?_
      refine fr_lmul hg dX10_digest_108 rfl ?_
      refine fr_aload_n hg 0 rfl dX10_digest_109 rfl ?_
      refine fr_getr hg (q := 0) (q' := 15) fo_X10_53 rfl rfl dX10_digest_110 rfl ?_
      refine fr_iload_n hg 2 rfl dX10_digest_113 rfl ?_
      refine fr_iaload hg (q := 15) rfl dX10_digest_114 rfl (fun x17 => ?_)
      refine fr_i2l hg dX10_digest_115 rfl ?_
      refine fr_ladd hg dX10_digest_116 rfl ?_
      refine fr_lstore_n hg (ls' := [(0, .ref (fr_ad w 0)), (1, .long ((31 * b15.1) + x17.toInt64)), (3, .int b15.2.1)]) dX10_digest_117 rfl (by decide) rfl rfl ?_
      refine fr_ldc2 hg cl_X10_141 dX10_digest_118 rfl ?_
      refine fr_lload_n hg 1 rfl dX10_digest_121 rfl ?_
      refine fr_lmul hg dX10_digest_122 rfl ?_
      refine fr_aload_n hg 0 rfl dX10_digest_123 rfl ?_
      refine fr_iload_n hg 2 rfl dX10_digest_124 rfl ?_
      refine fr_ci1 hg (mX10_allOf b15.2.1) (fr_crV hg (q := 0) mo_X10_189 rfl ⟨_, _, rfl⟩ rfl (by decide) (by decide) (Nat.le_of_ble_eq_true rfl) dX10_digest_125 rfl) rfl (fun r18 => ?_)
      refine fr_i2l hg dX10_digest_128 rfl ?_
      refine fr_ladd hg dX10_digest_129 rfl ?_
      refine fr_lstore_n hg (ls' := [(0, .ref (fr_ad w 0)), (1, .long ((31 * ((31 * b15.1) + x17.toInt64)) + r18.toInt64)), (3, .int b15.2.1)]) dX10_digest_130 rfl (by decide) rfl rfl ?_
      refine fr_iconst hg (v := (-1)) (by decide) dX10_digest_131 rfl ?_
      refine fr_istore hg (ls' := [(0, .ref (fr_ad w 0)), (1, .long ((31 * ((31 * b15.1) + x17.toInt64)) + r18.toInt64)), (3, .int b15.2.1), (4, .int (-1))]) dX10_digest_132 (by decide) rfl rfl ?_
      refine fr_lp (fun (b19 : Int64 × Int32 × fr_St) => [(0, .ref (fr_ad w 0)), (1, .long b19.1), (3, .int b15.2.1), (4, .int b19.2.1)]) (fun b19 => b19.2.2) 161 (fun (c20 : Int64 × fr_St) => [(0, .ref (fr_ad w 0)), (1, .long c20.1), (3, .int b15.2.1)]) (fun c20 => c20.2) [0, 1, 2, 3] rfl rfl (fun b19 => ?_) (fun c20 => ?_)
      · show fr_V g w _ (zX10_digest_L134 b15.2.1 b19.1 b19.2.1 b19.2.2) _ _ _ _ _
        unfold zX10_digest_L134
        refine fr_iload hg 3 rfl dX10_digest_134 rfl ?_
        refine fr_iconst hg (v := 2) (by decide) dX10_digest_136 rfl ?_
        refine fr_icmp_ge hg (m := 161) dX10_digest_137 (by decide) rfl ?_ ?_
        · exact fr_leaf [0, 1, 2] rfl (fun h => h)
        · refine fr_ldc2 hg cl_X10_141 dX10_digest_140 rfl ?_
          refine fr_lload_n hg 1 rfl dX10_digest_143 rfl ?_
          refine fr_lmul hg dX10_digest_144 rfl ?_
          refine fr_aload_n hg 0 rfl dX10_digest_145 rfl ?_
          refine fr_iload_n hg 2 rfl dX10_digest_146 rfl ?_
          refine fr_iload hg 3 rfl dX10_digest_147 rfl ?_
          refine fr_ci2 hg (mX10_firstOf b15.2.1 b19.2.1) (fr_crV hg (q := 0) mo_X10_204 rfl ⟨_, _, rfl⟩ rfl (by decide) (by decide) (Nat.le_of_ble_eq_true rfl) dX10_digest_149 rfl) rfl (fun p22 => ?_)
          refine fr_i2l hg dX10_digest_152 rfl ?_
          refine fr_ladd hg dX10_digest_153 rfl ?_
          refine fr_lstore_n hg (ls' := [(0, .ref (fr_ad w 0)), (1, .long ((31 * b19.1) + p22.1.toInt64)), (3, .int b15.2.1), (4, .int b19.2.1)]) dX10_digest_154 rfl (by decide) rfl rfl ?_
          refine fr_iinc hg 3 (v := b19.2.1 + 1) (ls' := [(0, .ref (fr_ad w 0)), (1, .long ((31 * b19.1) + p22.1.toInt64)), (3, .int b15.2.1), (4, .int (b19.2.1 + 1))]) dX10_digest_155 rfl rfl (by decide) rfl rfl ?_
          refine fr_goto hg (n := 134) dX10_digest_158 (by decide) ?_
          exact fr_leaf [0, 1, 2, 3] rfl (fun h => h)
      refine fr_iconst hg (v := 0) (by decide) dX10_digest_161 rfl ?_
      refine fr_istore hg (ls' := [(0, .ref (fr_ad w 0)), (1, .long c20.1), (3, .int b15.2.1), (4, .int 0)]) dX10_digest_162 (by decide) rfl rfl ?_
      refine fr_lp (fun (b23 : Int64 × Int32 × fr_St) => [(0, .ref (fr_ad w 0)), (1, .long b23.1), (3, .int b15.2.1), (4, .int b23.2.1)]) (fun b23 => b23.2.2) 193 (fun (c24 : Int64 × fr_St) => [(0, .ref (fr_ad w 0)), (1, .long c24.1), (3, .int b15.2.1)]) (fun c24 => c24.2) [0, 1, 2, 3] rfl rfl (fun b23 => ?_) (fun c24 => ?_)
      · show fr_V g w _ (zX10_digest_L164 b15.2.1 b23.1 b23.2.1 b23.2.2) _ _ _ _ _
        unfold zX10_digest_L164
        refine fr_iload hg 3 rfl dX10_digest_164 rfl ?_
        refine fr_iconst hg (v := 2) (by decide) dX10_digest_166 rfl ?_
        refine fr_icmp_ge hg (m := 193) dX10_digest_167 (by decide) rfl ?_ ?_
        · exact fr_leaf [0, 1, 2] rfl (fun h => h)
        · refine fr_ldc2 hg cl_X10_141 dX10_digest_170 rfl ?_
          refine fr_lload_n hg 1 rfl dX10_digest_173 rfl ?_
          refine fr_lmul hg dX10_digest_174 rfl ?_
          refine fr_aload_n hg 0 rfl dX10_digest_175 rfl ?_
          refine fr_iload_n hg 2 rfl dX10_digest_176 rfl ?_
          refine fr_iconst hg (v := 1) (by decide) dX10_digest_177 rfl ?_
          refine fr_iconst hg (v := 3) (by decide) dX10_digest_178 rfl ?_
          refine fr_iload hg 3 rfl dX10_digest_179 rfl ?_
          refine fr_ci2 hg (mX10_stopOf b15.2.1 1 3 b23.2.1) (fr_crV hg (q := 0) mo_X10_210 rfl ⟨_, _, rfl⟩ rfl (by decide) (by decide) (Nat.le_of_ble_eq_true rfl) dX10_digest_181 rfl) rfl (fun p26 => ?_)
          refine fr_i2l hg dX10_digest_184 rfl ?_
          refine fr_ladd hg dX10_digest_185 rfl ?_
          refine fr_lstore_n hg (ls' := [(0, .ref (fr_ad w 0)), (1, .long ((31 * b23.1) + p26.1.toInt64)), (3, .int b15.2.1), (4, .int b23.2.1)]) dX10_digest_186 rfl (by decide) rfl rfl ?_
          refine fr_iinc hg 3 (v := b23.2.1 + 1) (ls' := [(0, .ref (fr_ad w 0)), (1, .long ((31 * b23.1) + p26.1.toInt64)), (3, .int b15.2.1), (4, .int (b23.2.1 + 1))]) dX10_digest_187 rfl rfl (by decide) rfl rfl ?_
          refine fr_goto hg (n := 164) dX10_digest_190 (by decide) ?_
          exact fr_leaf [0, 1, 2, 3] rfl (fun h => h)
      refine fr_iconst hg (v := 0) (by decide) dX10_digest_193 rfl ?_
      refine fr_istore hg (ls' := [(0, .ref (fr_ad w 0)), (1, .long c24.1), (3, .int b15.2.1), (4, .int 0)]) dX10_digest_194 (by decide) rfl rfl ?_
      refine fr_lp (fun (b27 : Int64 × Int32) => [(0, .ref (fr_ad w 0)), (1, .long b27.1), (3, .int b15.2.1), (4, .int b27.2)]) (fun b27 => c24.2) 225 (fun (c28 : Int64) => [(0, .ref (fr_ad w 0)), (1, .long c28), (3, .int b15.2.1)]) (fun c28 => c24.2) [0, 1, 2, 3] rfl rfl (fun b27 => ?_) (fun c28 => ?_)
      · show fr_V g w _ (zX10_digest_L196 c24.2 b15.2.1 b27.1 b27.2) _ _ _ _ _
        unfold zX10_digest_L196
        refine fr_iload hg 3 rfl dX10_digest_196 rfl ?_
        refine fr_iconst hg (v := 2) (by decide) dX10_digest_198 rfl ?_
        refine fr_icmp_ge hg (m := 225) dX10_digest_199 (by decide) rfl ?_ ?_
        · exact fr_leaf [0, 1, 2] rfl (fun h => h)
        · refine fr_ldc2 hg cl_X10_141 dX10_digest_202 rfl ?_
          refine fr_lload_n hg 1 rfl dX10_digest_205 rfl ?_
          refine fr_lmul hg dX10_digest_206 rfl ?_
          refine fr_aload_n hg 0 rfl dX10_digest_207 rfl ?_
          refine fr_bipush hg (v := 20) (by decide) dX10_digest_208 rfl ?_
          refine fr_iload_n hg 2 rfl dX10_digest_210 rfl ?_
          refine fr_iload hg 3 rfl dX10_digest_211 rfl ?_
          refine fr_ci1 hg (mX10_warmOf 20 b15.2.1 b27.2) (fr_crV hg (q := 0) mo_X10_217 rfl ⟨_, _, rfl⟩ rfl (by decide) (by decide) (Nat.le_of_ble_eq_true rfl) dX10_digest_213 rfl) rfl (fun r29 => ?_)
          refine fr_i2l hg dX10_digest_216 rfl ?_
          refine fr_ladd hg dX10_digest_217 rfl ?_
          refine fr_lstore_n hg (ls' := [(0, .ref (fr_ad w 0)), (1, .long ((31 * b27.1) + r29.toInt64)), (3, .int b15.2.1), (4, .int b27.2)]) dX10_digest_218 rfl (by decide) rfl rfl ?_
          refine fr_iinc hg 3 (v := b27.2 + 1) (ls' := [(0, .ref (fr_ad w 0)), (1, .long ((31 * b27.1) + r29.toInt64)), (3, .int b15.2.1), (4, .int (b27.2 + 1))]) dX10_digest_219 rfl rfl (by decide) rfl rfl ?_
          refine fr_goto hg (n := 196) dX10_digest_222 (by decide) ?_
          exact fr_leaf [0, 1, 2, 3] rfl (fun h => h)
      refine fr_iconst hg (v := 0) (by decide) dX10_digest_225 rfl ?_
      refine fr_istore hg (ls' := [(0, .ref (fr_ad w 0)), (1, .long c28), (3, .int b15.2.1), (4, .int 0)]) dX10_digest_226 (by decide) rfl rfl ?_
      refine fr_lp (fun (b30 : Int64 × Int32) => [(0, .ref (fr_ad w 0)), (1, .long b30.1), (3, .int b15.2.1), (4, .int b30.2)]) (fun b30 => c24.2) 265 (fun (c31 : Int64) => [(0, .ref (fr_ad w 0)), (1, .long c31), (3, .int b15.2.1)]) (fun c31 => c24.2) [0, 1, 2, 3] rfl rfl (fun b30 => ?_) (fun c31 => ?_)
      · show fr_V g w _ (zX10_digest_L228 c24.2 b15.2.1 b30.1 b30.2) _ _ _ _ _
        unfold zX10_digest_L228
        refine fr_iload hg 3 rfl dX10_digest_228 rfl ?_
        refine fr_iconst hg (v := 2) (by decide) dX10_digest_230 rfl ?_
        refine fr_icmp_ge hg (m := 265) dX10_digest_231 (by decide) rfl ?_ ?_
        · exact fr_leaf [0, 1, 2] rfl (fun h => h)
        · refine fr_ldc2 hg cl_X10_141 dX10_digest_234 rfl ?_
          refine fr_lload_n hg 1 rfl dX10_digest_237 rfl ?_
          refine fr_lmul hg dX10_digest_238 rfl ?_
          refine fr_aload_n hg 0 rfl dX10_digest_239 rfl ?_
          refine fr_bipush hg (v := 6) (by decide) dX10_digest_240 rfl ?_
          refine fr_iconst hg (v := 1) (by decide) dX10_digest_242 rfl ?_
          refine fr_iconst hg (v := 0) (by decide) dX10_digest_243 rfl ?_
          refine fr_iload_n hg 2 rfl dX10_digest_244 rfl ?_
          refine fr_ci1 hg (mX10_tonightBy 6 1 0 b15.2.1) (fr_crV hg (q := 0) mo_X10_241 rfl ⟨_, _, rfl⟩ rfl (by decide) (by decide) (Nat.le_of_ble_eq_true rfl) dX10_digest_245 rfl) rfl (fun r32 => ?_)
          refine fr_i2l hg dX10_digest_248 rfl ?_
          refine fr_ldc2 hg cl_X10_239 dX10_digest_249 rfl ?_
          refine fr_iload hg 3 rfl dX10_digest_252 rfl ?_
          refine fr_cl1 hg (mX10_part r32.toInt64 16 b30.2) (fr_crS hg mo_X10_244 rfl (by decide) (by decide) (Nat.le_of_ble_eq_true rfl) dX10_digest_254 rfl) rfl (fun r33 => ?_)
          refine fr_ladd hg dX10_digest_257 rfl ?_
          refine fr_lstore_n hg (ls' := [(0, .ref (fr_ad w 0)), (1, .long ((31 * b30.1) + r33)), (3, .int b15.2.1), (4, .int b30.2)]) dX10_digest_258 rfl (by decide) rfl rfl ?_
          refine fr_iinc hg 3 (v := b30.2 + 1) (ls' := [(0, .ref (fr_ad w 0)), (1, .long ((31 * b30.1) + r33)), (3, .int b15.2.1), (4, .int (b30.2 + 1))]) dX10_digest_259 rfl rfl (by decide) rfl rfl ?_
          refine fr_goto hg (n := 228) dX10_digest_262 (by decide) ?_
          exact fr_leaf [0, 1, 2, 3] rfl (fun h => h)
      refine fr_iinc hg 2 (v := b15.2.1 + 1) (ls' := [(0, .ref (fr_ad w 0)), (1, .long c31), (3, .int (b15.2.1 + 1))]) dX10_digest_265 rfl rfl (by decide) rfl rfl ?_
      refine fr_goto hg (n := 99) dX10_digest_268 (by decide) ?_
      exact fr_leaf [0, 1, 2] rfl (fun h => h)
  refine fr_iconst hg (v := 0) (by decide) dX10_digest_271 rfl ?_
  refine fr_istore_n hg (ls' := [(0, .ref (fr_ad w 0)), (1, .long c16.1), (3, .int 0)]) dX10_digest_272 rfl (by decide) rfl rfl ?_
  refine fr_lp (fun (b34 : Int64 × Int32) => [(0, .ref (fr_ad w 0)), (1, .long b34.1), (3, .int b34.2)]) (fun b34 => c16.2) 316 (fun (c35 : Int64) => [(0, .ref (fr_ad w 0)), (1, .long c35)]) (fun c35 => c16.2) [0, 1, 2] rfl rfl (fun b34 => ?_) (fun c35 => ?_)
  · show fr_V g w _ (zX10_digest_L273 c16.2 b34.1 b34.2) _ _ _ _ _
    unfold zX10_digest_L273
    refine fr_iload_n hg 2 rfl dX10_digest_273 rfl ?_
    refine fr_aload_n hg 0 rfl dX10_digest_274 rfl ?_
    refine fr_geti hg (q := 0) fo_X10_128 rfl rfl dX10_digest_275 rfl ?_
    refine fr_icmp_ge hg (m := 316) dX10_digest_278 (by decide) rfl ?_ ?_
    · exact fr_leaf [0, 1] rfl (fun h => h)
    · refine fr_ldc2 hg cl_X10_141 dX10_digest_281 rfl ?_
      refine fr_lload_n hg 1 rfl dX10_digest_284 rfl ?_
      refine fr_lmul hg dX10_digest_285 rfl ?_
      refine fr_aload_n hg 0 rfl dX10_digest_286 rfl ?_
      refine fr_iload_n hg 2 rfl dX10_digest_287 rfl ?_
      refine fr_ci1 hg (mX10_riskOf b34.2) (fr_crV hg (q := 0) mo_X10_177 rfl ⟨_, _, rfl⟩ rfl (by decide) (by decide) (Nat.le_of_ble_eq_true rfl) dX10_digest_288 rfl) rfl (fun r36 => ?_)
      refine fr_i2l hg dX10_digest_291 rfl ?_
      refine fr_ladd hg dX10_digest_292 rfl ?_
      refine fr_lstore_n hg (ls' := [(0, .ref (fr_ad w 0)), (1, .long ((31 * b34.1) + r36.toInt64)), (3, .int b34.2)]) dX10_digest_293 rfl (by decide) rfl rfl ?_
      refine fr_ldc2 hg cl_X10_141 dX10_digest_294 rfl ?_
      refine fr_lload_n hg 1 rfl dX10_digest_297 rfl ?_
      refine fr_lmul hg dX10_digest_298 rfl ?_
      refine fr_aload_n hg 0 rfl dX10_digest_299 rfl ?_
      refine fr_iload_n hg 2 rfl dX10_digest_300 rfl ?_
      refine fr_bipush hg (v := 30) (by decide) dX10_digest_301 rfl ?_
      refine fr_iconst hg (v := 2) (by decide) dX10_digest_303 rfl ?_
      refine fr_ci1 hg (mX10_bendOf b34.2 30 2) (fr_crV hg (q := 0) mo_X10_276 rfl ⟨_, _, rfl⟩ rfl (by decide) (by decide) (Nat.le_of_ble_eq_true rfl) dX10_digest_304 rfl) rfl (fun r37 => ?_)
      refine fr_i2l hg dX10_digest_307 rfl ?_
      refine fr_ladd hg dX10_digest_308 rfl ?_
      refine fr_lstore_n hg (ls' := [(0, .ref (fr_ad w 0)), (1, .long ((31 * ((31 * b34.1) + r36.toInt64)) + r37.toInt64)), (3, .int b34.2)]) dX10_digest_309 rfl (by decide) rfl rfl ?_
      refine fr_iinc hg 2 (v := b34.2 + 1) (ls' := [(0, .ref (fr_ad w 0)), (1, .long ((31 * ((31 * b34.1) + r36.toInt64)) + r37.toInt64)), (3, .int (b34.2 + 1))]) dX10_digest_310 rfl rfl (by decide) rfl rfl ?_
      refine fr_goto hg (n := 273) dX10_digest_313 (by decide) ?_
      exact fr_leaf [0, 1, 2] rfl (fun h => h)
  refine fr_ldc2 hg cl_X10_141 dX10_digest_316 rfl ?_
  refine fr_lload_n hg 1 rfl dX10_digest_319 rfl ?_
  refine fr_lmul hg dX10_digest_320 rfl ?_
  refine fr_aload_n hg 0 rfl dX10_digest_321 rfl ?_
  refine fr_bipush hg (v := 30) (by decide) dX10_digest_322 rfl ?_
  refine fr_iconst hg (v := 5) (by decide) dX10_digest_324 rfl ?_
  refine fr_ci1 hg (mX10_meltsOf 30 5) (fr_crV hg (q := 0) mo_X10_222 rfl ⟨_, _, rfl⟩ rfl (by decide) (by decide) (Nat.le_of_ble_eq_true rfl) dX10_digest_325 rfl) rfl (fun r38 => ?_)
  refine fr_i2l hg dX10_digest_328 rfl ?_
  refine fr_ladd hg dX10_digest_329 rfl ?_
  refine fr_lstore_n hg (ls' := [(0, .ref (fr_ad w 0)), (1, .long ((31 * c35) + r38.toInt64))]) dX10_digest_330 rfl (by decide) rfl rfl ?_
  refine fr_iconst hg (v := 0) (by decide) dX10_digest_331 rfl ?_
  refine fr_istore_n hg (ls' := [(0, .ref (fr_ad w 0)), (1, .long ((31 * c35) + r38.toInt64)), (3, .int 0)]) dX10_digest_332 rfl (by decide) rfl rfl ?_
  refine fr_lp (fun (b39 : Int64 × Int32) => [(0, .ref (fr_ad w 0)), (1, .long b39.1), (3, .int b39.2)]) (fun b39 => c16.2) 359 (fun (c40 : Int64) => [(0, .ref (fr_ad w 0)), (1, .long c40)]) (fun c40 => c16.2) [0, 1, 2] rfl rfl (fun b39 => ?_) (fun c40 => ?_)
  · show fr_V g w _ (zX10_digest_L333 b39.1 b39.2) _ _ _ _ _
    unfold zX10_digest_L333
    refine fr_iload_n hg 2 rfl dX10_digest_333 rfl ?_
    refine fr_iconst hg (v := 2) (by decide) dX10_digest_334 rfl ?_
    refine fr_icmp_ge hg (m := 359) dX10_digest_335 (by decide) rfl ?_ ?_
    · exact fr_leaf [0, 1] rfl (fun h => h)
    · refine fr_ldc2 hg cl_X10_141 dX10_digest_338 rfl ?_
      refine fr_lload_n hg 1 rfl dX10_digest_341 rfl ?_
      refine fr_lmul hg dX10_digest_342 rfl ?_
      refine fr_iconst hg (v := 3) (by decide) dX10_digest_343 rfl ?_
      refine fr_iconst hg (v := 4) (by decide) dX10_digest_344 rfl ?_
      refine fr_iconst hg (v := 5) (by decide) dX10_digest_345 rfl ?_
      refine fr_iload_n hg 2 rfl dX10_digest_346 rfl ?_
      refine fr_ci1 hg (mX10_againOf 3 4 5 b39.2) (fr_crS hg mo_X10_230 rfl (by decide) (by decide) (Nat.le_of_ble_eq_true rfl) dX10_digest_347 rfl) rfl (fun r41 => ?_)
      refine fr_i2l hg dX10_digest_350 rfl ?_
      refine fr_ladd hg dX10_digest_351 rfl ?_
      refine fr_lstore_n hg (ls' := [(0, .ref (fr_ad w 0)), (1, .long ((31 * b39.1) + r41.toInt64)), (3, .int b39.2)]) dX10_digest_352 rfl (by decide) rfl rfl ?_
      refine fr_iinc hg 2 (v := b39.2 + 1) (ls' := [(0, .ref (fr_ad w 0)), (1, .long ((31 * b39.1) + r41.toInt64)), (3, .int (b39.2 + 1))]) dX10_digest_353 rfl rfl (by decide) rfl rfl ?_
      refine fr_goto hg (n := 333) dX10_digest_356 (by decide) ?_
      exact fr_leaf [0, 1, 2] rfl (fun h => h)
  refine fr_ldc2 hg cl_X10_141 dX10_digest_359 rfl ?_
  refine fr_lload_n hg 1 rfl dX10_digest_362 rfl ?_
  refine fr_lmul hg dX10_digest_363 rfl ?_
  refine fr_aload_n hg 0 rfl dX10_digest_364 rfl ?_
  refine fr_bipush hg (v := 8) (by decide) dX10_digest_365 rfl ?_
  refine fr_bipush hg (v := 60) (by decide) dX10_digest_367 rfl ?_
  refine fr_iconst hg (v := 4) (by decide) dX10_digest_369 rfl ?_
  refine fr_bipush hg (v := 90) (by decide) dX10_digest_370 rfl ?_
  refine fr_ci2 hg (mX10_cover 8 60 4 90) (fr_crV hg (q := 0) mo_X10_287 rfl ⟨_, _, rfl⟩ rfl (by decide) (by decide) (Nat.le_of_ble_eq_true rfl) dX10_digest_372 rfl) rfl (fun p43 => ?_)
  refine fr_i2l hg dX10_digest_375 rfl ?_
  refine fr_ladd hg dX10_digest_376 rfl ?_
  refine fr_lstore_n hg (ls' := [(0, .ref (fr_ad w 0)), (1, .long ((31 * c40) + p43.1.toInt64))]) dX10_digest_377 rfl (by decide) rfl rfl ?_
  refine fr_aload_n hg 0 rfl dX10_digest_378 rfl ?_
  refine fr_ci2 hg mX10_findRow (fr_crV hg (q := 0) mo_X10_263 rfl ⟨_, _, rfl⟩ rfl (by decide) (by decide) (Nat.le_of_ble_eq_true rfl) dX10_digest_379 rfl) rfl (fun p45 => ?_)
  refine fr_istore_n hg (ls' := [(0, .ref (fr_ad w 0)), (1, .long ((31 * c40) + p43.1.toInt64)), (3, .int p45.1)]) dX10_digest_382 rfl (by decide) rfl rfl ?_
  refine fr_ldc2 hg cl_X10_141 dX10_digest_383 rfl ?_
  refine fr_lload_n hg 1 rfl dX10_digest_386 rfl ?_
  refine fr_lmul hg dX10_digest_387 rfl ?_
  refine fr_iload_n hg 2 rfl dX10_digest_388 rfl ?_
  refine fr_i2l hg dX10_digest_389 rfl ?_
  refine fr_ladd hg dX10_digest_390 rfl ?_
  refine fr_lstore_n hg (ls' := [(0, .ref (fr_ad w 0)), (1, .long ((31 * ((31 * c40) + p43.1.toInt64)) + p45.1.toInt64)), (3, .int p45.1)]) dX10_digest_391 rfl (by decide) rfl rfl ?_
  refine fr_iconst hg (v := 0) (by decide) dX10_digest_392 rfl ?_
  refine fr_istore hg (ls' := [(0, .ref (fr_ad w 0)), (1, .long ((31 * ((31 * c40) + p43.1.toInt64)) + p45.1.toInt64)), (3, .int p45.1), (4, .int 0)]) dX10_digest_393 (by decide) rfl rfl ?_
  refine fr_lp (fun (b46 : Int64 × Int32) => [(0, .ref (fr_ad w 0)), (1, .long b46.1), (4, .int b46.2)]) (fun b46 => p45.2) 435 (fun (c47 : Int64) => [(0, .ref (fr_ad w 0)), (1, .long c47)]) (fun c47 => p45.2) [0, 1, 3] rfl rfl (fun b46 => ?_) (fun c47 => ?_)
  · show fr_V g w _ (zX10_digest_L395 p45.2 b46.1 b46.2) _ _ _ _ _
    unfold zX10_digest_L395
    refine fr_iload hg 2 rfl dX10_digest_395 rfl ?_
    refine fr_iconst hg (v := 2) (by decide) dX10_digest_397 rfl ?_
    refine fr_icmp_ge hg (m := 435) dX10_digest_398 (by decide) rfl ?_ ?_
    · exact fr_leaf [0, 1] rfl (fun h => h)
    · refine fr_ldc2 hg cl_X10_141 dX10_digest_401 rfl ?_
      refine fr_lload_n hg 1 rfl dX10_digest_404 rfl ?_
      refine fr_lmul hg dX10_digest_405 rfl ?_
      refine fr_iload hg 2 rfl dX10_digest_406 rfl ?_
      refine fr_aload_n hg 0 rfl dX10_digest_408 rfl ?_
      refine fr_geti hg (q := 0) fo_X10_254 rfl rfl dX10_digest_409 rfl ?_
      refine fr_icmp_ge hg (m := 425) dX10_digest_412 (by decide) rfl ?_ ?_
      · refine fr_iconst hg (v := (-1)) (by decide) dX10_digest_425 rfl ?_
        refine fr_i2l hg dX10_digest_426 rfl ?_
        refine fr_ladd hg dX10_digest_427 rfl ?_
        refine fr_lstore_n hg (ls' := [(0, .ref (fr_ad w 0)), (1, .long ((31 * b46.1) + ((-1 : Int32).toInt64))), (4, .int b46.2)]) dX10_digest_428 rfl (by decide) rfl rfl ?_
        refine fr_iinc hg 2 (v := b46.2 + 1) (ls' := [(0, .ref (fr_ad w 0)), (1, .long ((31 * b46.1) + ((-1 : Int32).toInt64))), (4, .int (b46.2 + 1))]) dX10_digest_429 rfl rfl (by decide) rfl rfl ?_
        refine fr_goto hg (n := 395) dX10_digest_432 (by decide) ?_
        exact fr_leaf [0, 1, 2] rfl (fun h => h)
      · refine fr_aload_n hg 0 rfl dX10_digest_415 rfl ?_
        refine fr_getr hg (q := 0) (q' := 20) fo_X10_68 rfl rfl dX10_digest_416 rfl ?_
        refine fr_iload hg 2 rfl dX10_digest_419 rfl ?_
        refine fr_iaload hg (q := 20) rfl dX10_digest_421 rfl (fun x48 => ?_)
        refine fr_goto hg (n := 426) dX10_digest_422 (by decide) ?_
        refine fr_i2l hg dX10_digest_426 rfl ?_
        refine fr_ladd hg dX10_digest_427 rfl ?_
        refine fr_lstore_n hg (ls' := [(0, .ref (fr_ad w 0)), (1, .long ((31 * b46.1) + x48.toInt64)), (4, .int b46.2)]) dX10_digest_428 rfl (by decide) rfl rfl ?_
        refine fr_iinc hg 2 (v := b46.2 + 1) (ls' := [(0, .ref (fr_ad w 0)), (1, .long ((31 * b46.1) + x48.toInt64)), (4, .int (b46.2 + 1))]) dX10_digest_429 rfl rfl (by decide) rfl rfl ?_
        refine fr_goto hg (n := 395) dX10_digest_432 (by decide) ?_
        exact fr_leaf [0, 1, 2] rfl (fun h => h)
  refine fr_ldc2 hg cl_X10_141 dX10_digest_435 rfl ?_
  refine fr_lload_n hg 1 rfl dX10_digest_438 rfl ?_
  refine fr_lmul hg dX10_digest_439 rfl ?_
  refine fr_aload_n hg 0 rfl dX10_digest_440 rfl ?_
  refine fr_ci1 hg mX10_facedNow (fr_crV hg (q := 0) mo_X10_271 rfl ⟨_, _, rfl⟩ rfl (by decide) (by decide) (Nat.le_of_ble_eq_true rfl) dX10_digest_441 rfl) rfl (fun r49 => ?_)
  refine fr_i2l hg dX10_digest_444 rfl ?_
  refine fr_ladd hg dX10_digest_445 rfl ?_
  exact fr_lret hg dX10_digest_446 (fun h => h)
