noncomputable def zX9_digest_L6 (v1 : Int64) (v3 : Int32) (σ : fr_St) : Option ((Int64 × Int32 × fr_St) ⊕ (Int64 × fr_St)) :=
  if 7 < v3 then some (.inr (v1, σ)) else (zX9_count σ v3).bind (fun p2 => some (.inl (zX9_mixed v1 p2.1.toInt64, v3 + 1, p2.2)))
noncomputable def zX9_digest_L63 (v1 : Int64) (v3 : Int32) (σ : fr_St) : Option ((Int64 × Int32 × fr_St) ⊕ (Int64 × fr_St)) :=
  if 2 < v3 then some (.inr (v1, σ)) else (zX9_state σ (σ 14 2) v3).bind (fun p2 => some (.inl (zX9_mixed v1 p2.1.toInt64, v3 + 1, p2.2)))
noncomputable def zX9_digest_L94 (v1 : Int64) (v3 : Int32) (σ : fr_St) : Option ((Int64 × Int32 × fr_St) ⊕ (Int64 × fr_St)) :=
  if 4 ≤ v3 then some (.inr (v1, σ)) else (zX9_mixedWithTool σ v1 v3).bind (fun p2 => some (.inl (p2.1, v3 + 1, p2.2)))
noncomputable def zX9_digest_L114 (v1 : Int64) (v3 : Int32) (σ : fr_St) : Option ((Int64 × Int32 × fr_St) ⊕ (Int64 × fr_St)) :=
  if σ 7 3 ≤ v3 then some (.inr (v1, σ)) else (zX9_risk σ v3).bind (fun p2 => (zX9_bend p2.2 v3 30 2).bind (fun p4 => some (.inl (zX9_mixed (zX9_mixed v1 p2.1.toInt64) p4.1.toInt64, v3 + 1, p4.2))))
noncomputable def zX9_digest_L218 (σ : fr_St) (v1 : Int64) (v3 : Int32) : Option ((Int64 × Int32) ⊕ (Int64)) :=
  if 1 < v3 then some (.inr v1) else (zX9_lent σ v3).bind (fun r1 => some (.inl (zX9_mixed v1 r1.toInt64, v3 + 1)))
noncomputable def zX9_digest (σ : fr_St)  : Option (Int64 × fr_St) :=
  (fr_loop (fun (b1 : Int64 × Int32 × fr_St) => zX9_digest_L6 b1.1 b1.2.1 b1.2.2) fr_fu (17, 0, σ)).bind (fun (c2 : Int64 × fr_St) => (zX9_judged c2.2).bind (fun p6 => (fr_loop (fun (b7 : Int64 × Int32 × fr_St) => zX9_digest_L63 b7.1 b7.2.1 b7.2.2) fr_fu (zX9_mixed (zX9_mixed (zX9_mixed c2.1 ((zX9_fault c2.2 0).toInt64)) ((zX9_fault c2.2 1).toInt64)) p6.1.toInt64, 0, p6.2)).bind (fun (c8 : Int64 × fr_St) => (fr_loop (fun (b11 : Int64 × Int32 × fr_St) => zX9_digest_L94 b11.1 b11.2.1 b11.2.2) fr_fu (c8.1, 0, c8.2)).bind (fun (c12 : Int64 × fr_St) => (fr_loop (fun (b15 : Int64 × Int32 × fr_St) => zX9_digest_L114 b15.1 b15.2.1 b15.2.2) fr_fu (c12.1, 0, c12.2)).bind (fun (c16 : Int64 × fr_St) => (zX9_melts c16.2 30 6 5).bind (fun p22 => (zX9_again 3 4 5 0).bind (fun r23 => (zX9_again 3 4 5 1).bind (fun r24 => (zX9_cover p22.2 8 60 4 90).bind (fun r25 => (fr_loop (fun (b26 : Int64 × Int32) => zX9_digest_L218 p22.2 b26.1 b26.2) fr_fu (zX9_mixed (zX9_mixed (zX9_mixed (zX9_mixed c16.1 p22.1.toInt64) r23.toInt64) r24.toInt64) r25.toInt64, (-1))).bind (fun (c27 : Int64) => (zX9_faced p22.2).bind (fun r29 => some (zX9_mixed c27 r29.toInt64, p22.2))))))))))))
set_option maxRecDepth 100000 in
set_option maxHeartbeats 4000000 in
theorem mX9_digest  : fr_ML2 yX9_digest cX9_digest 4 6 141 fr_shX (fun w => [.ref (fr_ad w 0)]) (fun σ => zX9_digest σ) := by
  refine fr_mkL2 (by decide) (fun w => Nat.le_of_ble_eq_true rfl) (fun g w σ hg => ?_)
  show fr_V g w 4 (zX9_digest σ) _ 0 [(0, .ref (fr_ad w 0))] [] σ
  unfold zX9_digest
  refine fr_ldc2 hg cl_X9_291 dX9_digest_0 rfl ?_
  refine fr_lstore_n hg (ls' := [(0, .ref (fr_ad w 0)), (1, .long 17)]) dX9_digest_3 rfl (by decide) rfl rfl ?_
  refine fr_iconst hg (v := 0) (by decide) dX9_digest_4 rfl ?_
  refine fr_istore_n hg (ls' := [(0, .ref (fr_ad w 0)), (1, .long 17), (3, .int 0)]) dX9_digest_5 rfl (by decide) rfl rfl ?_
  refine fr_lp (fun (b1 : Int64 × Int32 × fr_St) => [(0, .ref (fr_ad w 0)), (1, .long b1.1), (3, .int b1.2.1)]) (fun b1 => b1.2.2) 29 (fun (c2 : Int64 × fr_St) => [(0, .ref (fr_ad w 0)), (1, .long c2.1)]) (fun c2 => c2.2) [0, 1, 2] rfl rfl (fun b1 => ?_) (fun c2 => ?_)
  · show fr_V g w _ (zX9_digest_L6 b1.1 b1.2.1 b1.2.2) _ _ _ _ _
    unfold zX9_digest_L6
    refine fr_iload_n hg 2 rfl dX9_digest_6 rfl ?_
    refine fr_bipush hg (v := 7) (by decide) dX9_digest_7 rfl ?_
    refine fr_icmp_gt hg (m := 29) dX9_digest_9 (by decide) rfl ?_ ?_
    · exact fr_leaf [0, 1] rfl (fun h => h)
    · refine fr_lload_n hg 1 rfl dX9_digest_12 rfl ?_
      refine fr_aload_n hg 0 rfl dX9_digest_13 rfl ?_
      refine fr_iload_n hg 2 rfl dX9_digest_14 rfl ?_
      refine fr_ci2 hg (mX9_count b1.2.1) (fr_crV hg (q := 0) mo_X9_293 rfl ⟨_, _, rfl⟩ rfl (by decide) (by decide) (Nat.le_of_ble_eq_true rfl) dX9_digest_15 rfl) rfl (fun p4 => ?_)
      refine fr_i2l hg dX9_digest_18 rfl ?_
      refine fr_cl0 hg (mX9_mixed b1.1 p4.1.toInt64) (fr_crS hg mo_X9_296 rfl (by decide) (by decide) (Nat.le_of_ble_eq_true rfl) dX9_digest_19 rfl) rfl ?_
      refine fr_lstore_n hg (ls' := [(0, .ref (fr_ad w 0)), (1, .long (zX9_mixed b1.1 p4.1.toInt64)), (3, .int b1.2.1)]) dX9_digest_22 rfl (by decide) rfl rfl ?_
      refine fr_iinc hg 2 (v := b1.2.1 + 1) (ls' := [(0, .ref (fr_ad w 0)), (1, .long (zX9_mixed b1.1 p4.1.toInt64)), (3, .int (b1.2.1 + 1))]) dX9_digest_23 rfl rfl (by decide) rfl rfl ?_
      refine fr_goto hg (n := 6) dX9_digest_26 (by decide) ?_
      exact fr_leaf [0, 1, 2] rfl (fun h => h)
  refine fr_lload_n hg 1 rfl dX9_digest_29 rfl ?_
  refine fr_aload_n hg 0 rfl dX9_digest_30 rfl ?_
  refine fr_iconst hg (v := 0) (by decide) dX9_digest_31 rfl ?_
  refine fr_ci0 hg (mX9_fault 0) (fr_crV hg (q := 0) mo_X9_300 rfl ⟨_, _, rfl⟩ rfl (by decide) (by decide) (Nat.le_of_ble_eq_true rfl) dX9_digest_32 rfl) rfl ?_
  refine fr_i2l hg dX9_digest_35 rfl ?_
  refine fr_cl0 hg (mX9_mixed c2.1 ((zX9_fault c2.2 0).toInt64)) (fr_crS hg mo_X9_296 rfl (by decide) (by decide) (Nat.le_of_ble_eq_true rfl) dX9_digest_36 rfl) rfl ?_
  refine fr_lstore_n hg (ls' := [(0, .ref (fr_ad w 0)), (1, .long (zX9_mixed c2.1 ((zX9_fault c2.2 0).toInt64)))]) dX9_digest_39 rfl (by decide) rfl rfl ?_
  refine fr_lload_n hg 1 rfl dX9_digest_40 rfl ?_
  refine fr_aload_n hg 0 rfl dX9_digest_41 rfl ?_
  refine fr_iconst hg (v := 1) (by decide) dX9_digest_42 rfl ?_
  refine fr_ci0 hg (mX9_fault 1) (fr_crV hg (q := 0) mo_X9_300 rfl ⟨_, _, rfl⟩ rfl (by decide) (by decide) (Nat.le_of_ble_eq_true rfl) dX9_digest_43 rfl) rfl ?_
  refine fr_i2l hg dX9_digest_46 rfl ?_
  refine fr_cl0 hg (mX9_mixed (zX9_mixed c2.1 ((zX9_fault c2.2 0).toInt64)) ((zX9_fault c2.2 1).toInt64)) (fr_crS hg mo_X9_296 rfl (by decide) (by decide) (Nat.le_of_ble_eq_true rfl) dX9_digest_47 rfl) rfl ?_
  refine fr_lstore_n hg (ls' := [(0, .ref (fr_ad w 0)), (1, .long (zX9_mixed (zX9_mixed c2.1 ((zX9_fault c2.2 0).toInt64)) ((zX9_fault c2.2 1).toInt64)))]) dX9_digest_50 rfl (by decide) rfl rfl ?_
  refine fr_lload_n hg 1 rfl dX9_digest_51 rfl ?_
  refine fr_aload_n hg 0 rfl dX9_digest_52 rfl ?_
  refine fr_ci2 hg mX9_judged (fr_crV hg (q := 0) mo_X9_302 rfl ⟨_, _, rfl⟩ rfl (by decide) (by decide) (Nat.le_of_ble_eq_true rfl) dX9_digest_53 rfl) rfl (fun p6 => ?_)
  refine fr_i2l hg dX9_digest_56 rfl ?_
  refine fr_cl0 hg (mX9_mixed (zX9_mixed (zX9_mixed c2.1 ((zX9_fault c2.2 0).toInt64)) ((zX9_fault c2.2 1).toInt64)) p6.1.toInt64) (fr_crS hg mo_X9_296 rfl (by decide) (by decide) (Nat.le_of_ble_eq_true rfl) dX9_digest_57 rfl) rfl ?_
  refine fr_lstore_n hg (ls' := [(0, .ref (fr_ad w 0)), (1, .long (zX9_mixed (zX9_mixed (zX9_mixed c2.1 ((zX9_fault c2.2 0).toInt64)) ((zX9_fault c2.2 1).toInt64)) p6.1.toInt64))]) dX9_digest_60 rfl (by decide) rfl rfl ?_
  refine fr_iconst hg (v := 0) (by decide) dX9_digest_61 rfl ?_
  refine fr_istore_n hg (ls' := [(0, .ref (fr_ad w 0)), (1, .long (zX9_mixed (zX9_mixed (zX9_mixed c2.1 ((zX9_fault c2.2 0).toInt64)) ((zX9_fault c2.2 1).toInt64)) p6.1.toInt64)), (3, .int 0)]) dX9_digest_62 rfl (by decide) rfl rfl ?_
  refine fr_lp (fun (b7 : Int64 × Int32 × fr_St) => [(0, .ref (fr_ad w 0)), (1, .long b7.1), (3, .int b7.2.1)]) (fun b7 => b7.2.2) 92 (fun (c8 : Int64 × fr_St) => [(0, .ref (fr_ad w 0)), (1, .long c8.1)]) (fun c8 => c8.2) [0, 1, 2] rfl rfl (fun b7 => ?_) (fun c8 => ?_)
  · show fr_V g w _ (zX9_digest_L63 b7.1 b7.2.1 b7.2.2) _ _ _ _ _
    unfold zX9_digest_L63
    refine fr_iload_n hg 2 rfl dX9_digest_63 rfl ?_
    refine fr_iconst hg (v := 2) (by decide) dX9_digest_64 rfl ?_
    refine fr_icmp_gt hg (m := 92) dX9_digest_65 (by decide) rfl ?_ ?_
    · exact fr_leaf [0, 1] rfl (fun h => h)
    · refine fr_lload_n hg 1 rfl dX9_digest_68 rfl ?_
      refine fr_aload_n hg 0 rfl dX9_digest_69 rfl ?_
      refine fr_aload_n hg 0 rfl dX9_digest_70 rfl ?_
      refine fr_getr hg (q := 0) (q' := 14) fo_X9_40 rfl rfl dX9_digest_71 rfl ?_
      refine fr_geti hg (q := 14) fo_X9_151 rfl rfl dX9_digest_74 rfl ?_
      refine fr_iload_n hg 2 rfl dX9_digest_77 rfl ?_
      refine fr_ci2 hg (mX9_state (b7.2.2 14 2) b7.2.1) (fr_crV hg (q := 0) mo_X9_305 rfl ⟨_, _, rfl⟩ rfl (by decide) (by decide) (Nat.le_of_ble_eq_true rfl) dX9_digest_78 rfl) rfl (fun p10 => ?_)
      refine fr_i2l hg dX9_digest_81 rfl ?_
      refine fr_cl0 hg (mX9_mixed b7.1 p10.1.toInt64) (fr_crS hg mo_X9_296 rfl (by decide) (by decide) (Nat.le_of_ble_eq_true rfl) dX9_digest_82 rfl) rfl ?_
      refine fr_lstore_n hg (ls' := [(0, .ref (fr_ad w 0)), (1, .long (zX9_mixed b7.1 p10.1.toInt64)), (3, .int b7.2.1)]) dX9_digest_85 rfl (by decide) rfl rfl ?_
      refine fr_iinc hg 2 (v := b7.2.1 + 1) (ls' := [(0, .ref (fr_ad w 0)), (1, .long (zX9_mixed b7.1 p10.1.toInt64)), (3, .int (b7.2.1 + 1))]) dX9_digest_86 rfl rfl (by decide) rfl rfl ?_
      refine fr_goto hg (n := 63) dX9_digest_89 (by decide) ?_
      exact fr_leaf [0, 1, 2] rfl (fun h => h)
  refine fr_iconst hg (v := 0) (by decide) dX9_digest_92 rfl ?_
  refine fr_istore_n hg (ls' := [(0, .ref (fr_ad w 0)), (1, .long c8.1), (3, .int 0)]) dX9_digest_93 rfl (by decide) rfl rfl ?_
  refine fr_lp (fun (b11 : Int64 × Int32 × fr_St) => [(0, .ref (fr_ad w 0)), (1, .long b11.1), (3, .int b11.2.1)]) (fun b11 => b11.2.2) 112 (fun (c12 : Int64 × fr_St) => [(0, .ref (fr_ad w 0)), (1, .long c12.1)]) (fun c12 => c12.2) [0, 1, 2] rfl rfl (fun b11 => ?_) (fun c12 => ?_)
  · show fr_V g w _ (zX9_digest_L94 b11.1 b11.2.1 b11.2.2) _ _ _ _ _
    unfold zX9_digest_L94
    refine fr_iload_n hg 2 rfl dX9_digest_94 rfl ?_
    refine fr_iconst hg (v := 4) (by decide) dX9_digest_95 rfl ?_
    refine fr_icmp_ge hg (m := 112) dX9_digest_96 (by decide) rfl ?_ ?_
    · exact fr_leaf [0, 1] rfl (fun h => h)
    · refine fr_aload_n hg 0 rfl dX9_digest_99 rfl ?_
      refine fr_lload_n hg 1 rfl dX9_digest_100 rfl ?_
      refine fr_iload_n hg 2 rfl dX9_digest_101 rfl ?_
      refine fr_cl2 hg (mX9_mixedWithTool b11.1 b11.2.1) (fr_crV hg (q := 0) mo_X9_308 rfl ⟨_, _, rfl⟩ rfl (by decide) (by decide) (Nat.le_of_ble_eq_true rfl) dX9_digest_102 rfl) rfl (fun p14 => ?_)
      refine fr_lstore_n hg (ls' := [(0, .ref (fr_ad w 0)), (1, .long p14.1), (3, .int b11.2.1)]) dX9_digest_105 rfl (by decide) rfl rfl ?_
      refine fr_iinc hg 2 (v := b11.2.1 + 1) (ls' := [(0, .ref (fr_ad w 0)), (1, .long p14.1), (3, .int (b11.2.1 + 1))]) dX9_digest_106 rfl rfl (by decide) rfl rfl ?_
      refine fr_goto hg (n := 94) dX9_digest_109 (by decide) ?_
      exact fr_leaf [0, 1, 2] rfl (fun h => h)
  refine fr_iconst hg (v := 0) (by decide) dX9_digest_112 rfl ?_
  refine fr_istore_n hg (ls' := [(0, .ref (fr_ad w 0)), (1, .long c12.1), (3, .int 0)]) dX9_digest_113 rfl (by decide) rfl rfl ?_
  refine fr_lp (fun (b15 : Int64 × Int32 × fr_St) => [(0, .ref (fr_ad w 0)), (1, .long b15.1), (3, .int b15.2.1)]) (fun b15 => b15.2.2) 156 (fun (c16 : Int64 × fr_St) => [(0, .ref (fr_ad w 0)), (1, .long c16.1)]) (fun c16 => c16.2) [0, 1, 2] rfl rfl (fun b15 => ?_) (fun c16 => ?_)
  · show fr_V g w _ (zX9_digest_L114 b15.1 b15.2.1 b15.2.2) _ _ _ _ _
    unfold zX9_digest_L114
    refine fr_iload_n hg 2 rfl dX9_digest_114 rfl ?_
    refine fr_aload_n hg 0 rfl dX9_digest_115 rfl ?_
    refine fr_getr hg (q := 0) (q' := 7) fo_X9_19 rfl rfl dX9_digest_116 rfl ?_
    refine fr_geti hg (q := 7) fo_X9_282 rfl rfl dX9_digest_119 rfl ?_
    refine fr_icmp_ge hg (m := 156) dX9_digest_122 (by decide) rfl ?_ ?_
    · exact fr_leaf [0, 1] rfl (fun h => h)
    · refine fr_lload_n hg 1 rfl dX9_digest_125 rfl ?_
      refine fr_aload_n hg 0 rfl dX9_digest_126 rfl ?_
      refine fr_iload_n hg 2 rfl dX9_digest_127 rfl ?_
      refine fr_ci2 hg (mX9_risk b15.2.1) (fr_crV hg (q := 0) mo_X9_252 rfl ⟨_, _, rfl⟩ rfl (by decide) (by decide) (Nat.le_of_ble_eq_true rfl) dX9_digest_128 rfl) rfl (fun p18 => ?_)
      refine fr_i2l hg dX9_digest_131 rfl ?_
      refine fr_cl0 hg (mX9_mixed b15.1 p18.1.toInt64) (fr_crS hg mo_X9_296 rfl (by decide) (by decide) (Nat.le_of_ble_eq_true rfl) dX9_digest_132 rfl) rfl ?_
      refine fr_lstore_n hg (ls' := [(0, .ref (fr_ad w 0)), (1, .long (zX9_mixed b15.1 p18.1.toInt64)), (3, .int b15.2.1)]) dX9_digest_135 rfl (by decide) rfl rfl ?_
      refine fr_lload_n hg 1 rfl dX9_digest_136 rfl ?_
      refine fr_aload_n hg 0 rfl dX9_digest_137 rfl ?_
      refine fr_iload_n hg 2 rfl dX9_digest_138 rfl ?_
      refine fr_bipush hg (v := 30) (by decide) dX9_digest_139 rfl ?_
      refine fr_iconst hg (v := 2) (by decide) dX9_digest_141 rfl ?_
      refine fr_ci2 hg (mX9_bend b15.2.1 30 2) (fr_crV hg (q := 0) mo_X9_312 rfl ⟨_, _, rfl⟩ rfl (by decide) (by decide) (Nat.le_of_ble_eq_true rfl) dX9_digest_142 rfl) rfl (fun p20 => ?_)
      refine fr_i2l hg dX9_digest_145 rfl ?_
      refine fr_cl0 hg (mX9_mixed (zX9_mixed b15.1 p18.1.toInt64) p20.1.toInt64) (fr_crS hg mo_X9_296 rfl (by decide) (by decide) (Nat.le_of_ble_eq_true rfl) dX9_digest_146 rfl) rfl ?_
      refine fr_lstore_n hg (ls' := [(0, .ref (fr_ad w 0)), (1, .long (zX9_mixed (zX9_mixed b15.1 p18.1.toInt64) p20.1.toInt64)), (3, .int b15.2.1)]) dX9_digest_149 rfl (by decide) rfl rfl ?_
      refine fr_iinc hg 2 (v := b15.2.1 + 1) (ls' := [(0, .ref (fr_ad w 0)), (1, .long (zX9_mixed (zX9_mixed b15.1 p18.1.toInt64) p20.1.toInt64)), (3, .int (b15.2.1 + 1))]) dX9_digest_150 rfl rfl (by decide) rfl rfl ?_
      refine fr_goto hg (n := 114) dX9_digest_153 (by decide) ?_
      exact fr_leaf [0, 1, 2] rfl (fun h => h)
  refine fr_lload_n hg 1 rfl dX9_digest_156 rfl ?_
  refine fr_aload_n hg 0 rfl dX9_digest_157 rfl ?_
  refine fr_bipush hg (v := 30) (by decide) dX9_digest_158 rfl ?_
  refine fr_bipush hg (v := 6) (by decide) dX9_digest_160 rfl ?_
  refine fr_iconst hg (v := 5) (by decide) dX9_digest_162 rfl ?_
  refine fr_ci2 hg (mX9_melts 30 6 5) (fr_crV hg (q := 0) mo_X9_315 rfl ⟨_, _, rfl⟩ rfl (by decide) (by decide) (Nat.le_of_ble_eq_true rfl) dX9_digest_163 rfl) rfl (fun p22 => ?_)
  refine fr_i2l hg dX9_digest_166 rfl ?_
  refine fr_cl0 hg (mX9_mixed c16.1 p22.1.toInt64) (fr_crS hg mo_X9_296 rfl (by decide) (by decide) (Nat.le_of_ble_eq_true rfl) dX9_digest_167 rfl) rfl ?_
  refine fr_lstore_n hg (ls' := [(0, .ref (fr_ad w 0)), (1, .long (zX9_mixed c16.1 p22.1.toInt64))]) dX9_digest_170 rfl (by decide) rfl rfl ?_
  refine fr_lload_n hg 1 rfl dX9_digest_171 rfl ?_
  refine fr_aload_n hg 0 rfl dX9_digest_172 rfl ?_
  refine fr_iconst hg (v := 3) (by decide) dX9_digest_173 rfl ?_
  refine fr_iconst hg (v := 4) (by decide) dX9_digest_174 rfl ?_
  refine fr_iconst hg (v := 5) (by decide) dX9_digest_175 rfl ?_
  refine fr_iconst hg (v := 0) (by decide) dX9_digest_176 rfl ?_
  refine fr_ci1 hg (mX9_again 3 4 5 0) (fr_crV hg (q := 0) mo_X9_318 rfl ⟨_, _, rfl⟩ rfl (by decide) (by decide) (Nat.le_of_ble_eq_true rfl) dX9_digest_177 rfl) rfl (fun r23 => ?_)
  refine fr_i2l hg dX9_digest_180 rfl ?_
  refine fr_cl0 hg (mX9_mixed (zX9_mixed c16.1 p22.1.toInt64) r23.toInt64) (fr_crS hg mo_X9_296 rfl (by decide) (by decide) (Nat.le_of_ble_eq_true rfl) dX9_digest_181 rfl) rfl ?_
  refine fr_lstore_n hg (ls' := [(0, .ref (fr_ad w 0)), (1, .long (zX9_mixed (zX9_mixed c16.1 p22.1.toInt64) r23.toInt64))]) dX9_digest_184 rfl (by decide) rfl rfl ?_
  refine fr_lload_n hg 1 rfl dX9_digest_185 rfl ?_
  refine fr_aload_n hg 0 rfl dX9_digest_186 rfl ?_
  refine fr_iconst hg (v := 3) (by decide) dX9_digest_187 rfl ?_
  refine fr_iconst hg (v := 4) (by decide) dX9_digest_188 rfl ?_
  refine fr_iconst hg (v := 5) (by decide) dX9_digest_189 rfl ?_
  refine fr_iconst hg (v := 1) (by decide) dX9_digest_190 rfl ?_
  refine fr_ci1 hg (mX9_again 3 4 5 1) (fr_crV hg (q := 0) mo_X9_318 rfl ⟨_, _, rfl⟩ rfl (by decide) (by decide) (Nat.le_of_ble_eq_true rfl) dX9_digest_191 rfl) rfl (fun r24 => ?_)
  refine fr_i2l hg dX9_digest_194 rfl ?_
  refine fr_cl0 hg (mX9_mixed (zX9_mixed (zX9_mixed c16.1 p22.1.toInt64) r23.toInt64) r24.toInt64) (fr_crS hg mo_X9_296 rfl (by decide) (by decide) (Nat.le_of_ble_eq_true rfl) dX9_digest_195 rfl) rfl ?_
  refine fr_lstore_n hg (ls' := [(0, .ref (fr_ad w 0)), (1, .long (zX9_mixed (zX9_mixed (zX9_mixed c16.1 p22.1.toInt64) r23.toInt64) r24.toInt64))]) dX9_digest_198 rfl (by decide) rfl rfl ?_
  refine fr_lload_n hg 1 rfl dX9_digest_199 rfl ?_
  refine fr_aload_n hg 0 rfl dX9_digest_200 rfl ?_
  refine fr_bipush hg (v := 8) (by decide) dX9_digest_201 rfl ?_
  refine fr_bipush hg (v := 60) (by decide) dX9_digest_203 rfl ?_
  refine fr_iconst hg (v := 4) (by decide) dX9_digest_205 rfl ?_
  refine fr_bipush hg (v := 90) (by decide) dX9_digest_206 rfl ?_
  refine fr_ci1 hg (mX9_cover 8 60 4 90) (fr_crV hg (q := 0) mo_X9_321 rfl ⟨_, _, rfl⟩ rfl (by decide) (by decide) (Nat.le_of_ble_eq_true rfl) dX9_digest_208 rfl) rfl (fun r25 => ?_)
  refine fr_i2l hg dX9_digest_211 rfl ?_
  refine fr_cl0 hg (mX9_mixed (zX9_mixed (zX9_mixed (zX9_mixed c16.1 p22.1.toInt64) r23.toInt64) r24.toInt64) r25.toInt64) (fr_crS hg mo_X9_296 rfl (by decide) (by decide) (Nat.le_of_ble_eq_true rfl) dX9_digest_212 rfl) rfl ?_
  refine fr_lstore_n hg (ls' := [(0, .ref (fr_ad w 0)), (1, .long (zX9_mixed (zX9_mixed (zX9_mixed (zX9_mixed c16.1 p22.1.toInt64) r23.toInt64) r24.toInt64) r25.toInt64))]) dX9_digest_215 rfl (by decide) rfl rfl ?_
  refine fr_iconst hg (v := (-1)) (by decide) dX9_digest_216 rfl ?_
  refine fr_istore_n hg (ls' := [(0, .ref (fr_ad w 0)), (1, .long (zX9_mixed (zX9_mixed (zX9_mixed (zX9_mixed c16.1 p22.1.toInt64) r23.toInt64) r24.toInt64) r25.toInt64)), (3, .int (-1))]) dX9_digest_217 rfl (by decide) rfl rfl ?_
  refine fr_lp (fun (b26 : Int64 × Int32) => [(0, .ref (fr_ad w 0)), (1, .long b26.1), (3, .int b26.2)]) (fun b26 => p22.2) 240 (fun (c27 : Int64) => [(0, .ref (fr_ad w 0)), (1, .long c27)]) (fun c27 => p22.2) [0, 1, 2] rfl rfl (fun b26 => ?_) (fun c27 => ?_)
  · show fr_V g w _ (zX9_digest_L218 p22.2 b26.1 b26.2) _ _ _ _ _
    unfold zX9_digest_L218
    refine fr_iload_n hg 2 rfl dX9_digest_218 rfl ?_
    refine fr_iconst hg (v := 1) (by decide) dX9_digest_219 rfl ?_
    refine fr_icmp_gt hg (m := 240) dX9_digest_220 (by decide) rfl ?_ ?_
    · exact fr_leaf [0, 1] rfl (fun h => h)
    · refine fr_lload_n hg 1 rfl dX9_digest_223 rfl ?_
      refine fr_aload_n hg 0 rfl dX9_digest_224 rfl ?_
      refine fr_iload_n hg 2 rfl dX9_digest_225 rfl ?_
      refine fr_ci1 hg (mX9_lent b26.2) (fr_crV hg (q := 0) mo_X9_324 rfl ⟨_, _, rfl⟩ rfl (by decide) (by decide) (Nat.le_of_ble_eq_true rfl) dX9_digest_226 rfl) rfl (fun r28 => ?_)
      refine fr_i2l hg dX9_digest_229 rfl ?_
      refine fr_cl0 hg (mX9_mixed b26.1 r28.toInt64) (fr_crS hg mo_X9_296 rfl (by decide) (by decide) (Nat.le_of_ble_eq_true rfl) dX9_digest_230 rfl) rfl ?_
      refine fr_lstore_n hg (ls' := [(0, .ref (fr_ad w 0)), (1, .long (zX9_mixed b26.1 r28.toInt64)), (3, .int b26.2)]) dX9_digest_233 rfl (by decide) rfl rfl ?_
      refine fr_iinc hg 2 (v := b26.2 + 1) (ls' := [(0, .ref (fr_ad w 0)), (1, .long (zX9_mixed b26.1 r28.toInt64)), (3, .int (b26.2 + 1))]) dX9_digest_234 rfl rfl (by decide) rfl rfl ?_
      refine fr_goto hg (n := 218) dX9_digest_237 (by decide) ?_
      exact fr_leaf [0, 1, 2] rfl (fun h => h)
  refine fr_lload_n hg 1 rfl dX9_digest_240 rfl ?_
  refine fr_aload_n hg 0 rfl dX9_digest_241 rfl ?_
  refine fr_ci1 hg mX9_faced (fr_crV hg (q := 0) mo_X9_327 rfl ⟨_, _, rfl⟩ rfl (by decide) (by decide) (Nat.le_of_ble_eq_true rfl) dX9_digest_242 rfl) rfl (fun r29 => ?_)
  refine fr_i2l hg dX9_digest_245 rfl ?_
  refine fr_cl0 hg (mX9_mixed c27 r29.toInt64) (fr_crS hg mo_X9_296 rfl (by decide) (by decide) (Nat.le_of_ble_eq_true rfl) dX9_digest_246 rfl) rfl ?_
  exact fr_lret hg dX9_digest_249 (fun h => h)
