noncomputable def zX1_order_L36 (k1 : Int32) (v2 : Int32) (σ : fr_St) : Option ((Int32 × fr_St) ⊕ (Int32 × fr_St)) :=
  if v2 ≤ 0 then some (.inr (v2, σ)) else (fr_al 32 σ 22 (v2 - 1)).bind (fun x1 => (zX1_isQuicker σ k1 x1).bind (fun r2 => if r2 = 0 then some (.inr (v2, σ)) else (fr_al 32 σ 22 (v2 - 1)).bind (fun x3 => (fr_as 32 σ 22 v2 x3).bind (fun σ4 => some (.inl (v2 + (-1), σ4))))))
noncomputable def zX1_order_L7 (v1 : Int32) (σ : fr_St) : Option ((Int32 × fr_St) ⊕ (fr_St)) :=
  if 32 ≤ v1 then some (.inr σ) else (fr_al 32 σ 19 v1).bind (fun x1 => if x1 ≤ 0 then some (.inl (v1 + 1, σ)) else (fr_al 32 σ 21 v1).bind (fun x2 => if x2 ≤ 0 then some (.inl (v1 + 1, σ)) else (fr_loop (fun (b3 : Int32 × fr_St) => zX1_order_L36 v1 b3.1 b3.2) fr_fu (σ 17 6, σ)).bind (fun (c4 : Int32 × fr_St) => (fr_as 32 c4.2 22 c4.1 v1).bind (fun σ9 => some (.inl (v1 + 1, (fr_put σ9 17 6 ((σ9 17 6) + 1))))))))
noncomputable def zX1_order (σ : fr_St)  : Option (fr_St) :=
  (fr_loop (fun (b1 : Int32 × fr_St) => zX1_order_L7 b1.1 b1.2) fr_fu (0, (fr_put σ 17 6 0))).bind (fun (c2 : fr_St) => some c2)
set_option maxRecDepth 100000 in
set_option maxHeartbeats 4000000 in
theorem mX1_order  : fr_MV2 yX1_order cX1_order 3 1 22 fr_shX (fun w => [.ref (fr_ad w 17)]) (fun σ => zX1_order σ) := by
  refine fr_mkV2 (by decide) (fun w => Nat.le_of_ble_eq_true rfl) (fun g w σ hg => ?_)
  show fr_V g w 3 (zX1_order σ) _ 0 [(0, .ref (fr_ad w 17))] [] σ
  unfold zX1_order
  refine fr_aload_n hg 0 rfl dX1_order_0 rfl ?_
  refine fr_iconst hg (v := 0) (by decide) dX1_order_1 rfl ?_
  refine fr_puti hg (q := 17) fp_X1_30 rfl rfl rfl rfl dX1_order_2 rfl ?_
  refine fr_iconst hg (v := 0) (by decide) dX1_order_5 rfl ?_
  refine fr_istore_n hg (ls' := [(0, .ref (fr_ad w 17)), (1, .int 0)]) dX1_order_6 rfl (by decide) rfl rfl ?_
  refine fr_lp (fun (b1 : Int32 × fr_St) => [(0, .ref (fr_ad w 17)), (1, .int b1.1)]) (fun b1 => b1.2) 99 (fun (c2 : fr_St) => []) (fun c2 => c2) [0, 1] rfl rfl (fun b1 => ?_) (fun c2 => ?_)
  · show fr_V g w _ (zX1_order_L7 b1.1 b1.2) _ _ _ _ _
    unfold zX1_order_L7
    refine fr_iload_n hg 1 rfl dX1_order_7 rfl ?_
    refine fr_bipush hg (v := 32) (by decide) dX1_order_8 rfl ?_
    refine fr_icmp_ge hg (m := 99) dX1_order_10 (by decide) rfl ?_ ?_
    · exact fr_leaf [] rfl (fun h => h)
    · refine fr_aload_n hg 0 rfl dX1_order_13 rfl ?_
      refine fr_getr hg (q := 17) (q' := 19) fo_X1_15 rfl rfl dX1_order_14 rfl ?_
      refine fr_iload_n hg 1 rfl dX1_order_17 rfl ?_
      refine fr_iaload hg (q := 19) rfl dX1_order_18 rfl (fun x3 => ?_)
      refine fr_if_le hg (m := 93) dX1_order_19 (by decide) rfl ?_ ?_
      · refine fr_iinc hg 1 (v := b1.1 + 1) (ls' := [(0, .ref (fr_ad w 17)), (1, .int (b1.1 + 1))]) dX1_order_93 rfl rfl (by decide) rfl rfl ?_
        refine fr_goto hg (n := 7) dX1_order_96 (by decide) ?_
        exact fr_leaf [0, 1] rfl (fun h => h)
      · refine fr_aload_n hg 0 rfl dX1_order_22 rfl ?_
        refine fr_getr hg (q := 17) (q' := 21) fo_X1_21 rfl rfl dX1_order_23 rfl ?_
        refine fr_iload_n hg 1 rfl dX1_order_26 rfl ?_
        refine fr_iaload hg (q := 21) rfl dX1_order_27 rfl (fun x4 => ?_)
        refine fr_if_le hg (m := 93) dX1_order_28 (by decide) rfl ?_ ?_
        · refine fr_iinc hg 1 (v := b1.1 + 1) (ls' := [(0, .ref (fr_ad w 17)), (1, .int (b1.1 + 1))]) dX1_order_93 rfl rfl (by decide) rfl rfl ?_
          refine fr_goto hg (n := 7) dX1_order_96 (by decide) ?_
          exact fr_leaf [0, 1] rfl (fun h => h)
        · refine fr_aload_n hg 0 rfl dX1_order_31 rfl ?_
          refine fr_geti hg (q := 17) fo_X1_30 rfl rfl dX1_order_32 rfl ?_
          refine fr_istore_n hg (ls' := [(0, .ref (fr_ad w 17)), (1, .int b1.1), (2, .int (b1.2 17 6))]) dX1_order_35 rfl (by decide) rfl rfl ?_
          refine fr_lp (fun (b5 : Int32 × fr_St) => [(0, .ref (fr_ad w 17)), (1, .int b1.1), (2, .int b5.1)]) (fun b5 => b5.2) 76 (fun (c6 : Int32 × fr_St) => [(0, .ref (fr_ad w 17)), (1, .int b1.1), (2, .int c6.1)]) (fun c6 => c6.2) [0, 1, 2] rfl rfl (fun b5 => ?_) (fun c6 => ?_)
          · show fr_V g w _ (zX1_order_L36 b1.1 b5.1 b5.2) _ _ _ _ _
            unfold zX1_order_L36
            refine fr_iload_n hg 2 rfl dX1_order_36 rfl ?_
            refine fr_if_le hg (m := 76) dX1_order_37 (by decide) rfl ?_ ?_
            · exact fr_leaf [0, 1, 2] rfl (fun h => h)
            · refine fr_aload_n hg 0 rfl dX1_order_40 rfl ?_
              refine fr_iload_n hg 1 rfl dX1_order_41 rfl ?_
              refine fr_aload_n hg 0 rfl dX1_order_42 rfl ?_
              refine fr_getr hg (q := 17) (q' := 22) fo_X1_24 rfl rfl dX1_order_43 rfl ?_
              refine fr_iload_n hg 2 rfl dX1_order_46 rfl ?_
              refine fr_iconst hg (v := 1) (by decide) dX1_order_47 rfl ?_
              refine fr_isub hg dX1_order_48 rfl ?_
              refine fr_iaload hg (q := 22) rfl dX1_order_49 rfl (fun x7 => ?_)
              refine fr_ci1 hg (mX1_isQuicker b1.1 x7) (fr_crV hg (q := 17) mo_X1_91 rfl ⟨_, _, rfl⟩ rfl (by decide) (by decide) (Nat.le_of_ble_eq_true rfl) dX1_order_50 rfl) rfl (fun r8 => ?_)
              refine fr_if_eq hg (m := 76) dX1_order_53 (by decide) rfl ?_ ?_
              · exact fr_leaf [0, 1, 2] rfl (fun h => h)
              · refine fr_aload_n hg 0 rfl dX1_order_56 rfl ?_
                refine fr_getr hg (q := 17) (q' := 22) fo_X1_24 rfl rfl dX1_order_57 rfl ?_
                refine fr_iload_n hg 2 rfl dX1_order_60 rfl ?_
                refine fr_aload_n hg 0 rfl dX1_order_61 rfl ?_
                refine fr_getr hg (q := 17) (q' := 22) fo_X1_24 rfl rfl dX1_order_62 rfl ?_
                refine fr_iload_n hg 2 rfl dX1_order_65 rfl ?_
                refine fr_iconst hg (v := 1) (by decide) dX1_order_66 rfl ?_
                refine fr_isub hg dX1_order_67 rfl ?_
                refine fr_iaload hg (q := 22) rfl dX1_order_68 rfl (fun x9 => ?_)
                refine fr_iastore hg (q := 22) rfl dX1_order_69 rfl (fun σ10 => ?_)
                refine fr_iinc hg 2 (v := b5.1 + (-1)) (ls' := [(0, .ref (fr_ad w 17)), (1, .int b1.1), (2, .int (b5.1 + (-1)))]) dX1_order_70 rfl rfl (by decide) rfl rfl ?_
                refine fr_goto hg (n := 36) dX1_order_73 (by decide) ?_
                exact fr_leaf [0, 1, 2] rfl (fun h => h)
          refine fr_aload_n hg 0 rfl dX1_order_76 rfl ?_
          refine fr_getr hg (q := 17) (q' := 22) fo_X1_24 rfl rfl dX1_order_77 rfl ?_
          refine fr_iload_n hg 2 rfl dX1_order_80 rfl ?_
          refine fr_iload_n hg 1 rfl dX1_order_81 rfl ?_
          refine fr_iastore hg (q := 22) rfl dX1_order_82 rfl (fun σ11 => ?_)
          refine fr_aload_n hg 0 rfl dX1_order_83 rfl ?_
          refine fr_dup hg rfl dX1_order_84 rfl ?_
          refine fr_geti hg (q := 17) fo_X1_30 rfl rfl dX1_order_85 rfl ?_
          refine fr_iconst hg (v := 1) (by decide) dX1_order_88 rfl ?_
          refine fr_iadd hg dX1_order_89 rfl ?_
          refine fr_puti hg (q := 17) fp_X1_30 rfl rfl rfl rfl dX1_order_90 rfl ?_
          refine fr_iinc hg 1 (v := b1.1 + 1) (ls' := [(0, .ref (fr_ad w 17)), (1, .int (b1.1 + 1)), (2, .int c6.1)]) dX1_order_93 rfl rfl (by decide) rfl rfl ?_
          refine fr_goto hg (n := 7) dX1_order_96 (by decide) ?_
          exact fr_leaf [0, 1] rfl (fun h => h)
  exact fr_vret hg dX1_order_99 (fun h => h)
noncomputable def zX9_settled (σ : fr_St)  : Option (Nat × fr_St) :=
  if σ 0 8 = 0 then some (0, σ) else (zX1_scrape σ).bind (fun σ1 => (zX1_weigh σ1).bind (fun σ2 => (zX1_order σ2).bind (fun σ3 => some (0, (fr_put σ3 0 8 0)))))
set_option maxRecDepth 100000 in
set_option maxHeartbeats 4000000 in
theorem mX9_settled  : fr_MR2 yX9_settled cX9_settled 1 (.object "FrostHole$Morning") 3 68 fr_shX (fun w => [.ref (fr_ad w 0)]) (fun _ => 17) (fun σ => zX9_settled σ) := by
  refine fr_mkR2 (by decide) ⟨_, rfl⟩ (fun w => Nat.le_of_ble_eq_true rfl) (fun g w σ hg => ?_)
  show fr_V g w 1 (zX9_settled σ) _ 0 [(0, .ref (fr_ad w 0))] [] σ
  unfold zX9_settled
  refine fr_aload_n hg 0 rfl dX9_settled_0 rfl ?_
  refine fr_geti hg (q := 0) fo_X9_64 rfl rfl dX9_settled_1 rfl ?_
  refine fr_if_eq hg (m := 53) dX9_settled_4 (by decide) rfl ?_ ?_
  · refine fr_aload_n hg 0 rfl dX9_settled_53 rfl ?_
    refine fr_getr hg (q := 0) (q' := 17) fo_X9_47 rfl rfl dX9_settled_54 rfl ?_
    exact fr_aret hg dX9_settled_57 (fun h => h)
  · refine fr_aload_n hg 0 rfl dX9_settled_7 rfl ?_
    refine fr_getr hg (q := 0) (q' := 17) fo_X9_47 rfl rfl dX9_settled_8 rfl ?_
    refine fr_aload_n hg 0 rfl dX9_settled_11 rfl ?_
    refine fr_getr hg (q := 0) (q' := 1) fo_X9_12 rfl rfl dX9_settled_12 rfl ?_
    refine fr_aload_n hg 0 rfl dX9_settled_15 rfl ?_
    refine fr_getr hg (q := 0) (q' := 9) fo_X9_26 rfl rfl dX9_settled_16 rfl ?_
    refine fr_aload_n hg 0 rfl dX9_settled_19 rfl ?_
    refine fr_getr hg (q := 0) (q' := 14) fo_X9_40 rfl rfl dX9_settled_20 rfl ?_
    refine fr_cv2 hg mX1_scrape (fr_crV hg (q := 17) mo_X9_354 rfl ⟨_, _, rfl⟩ rfl (by decide) (by decide) (Nat.le_of_ble_eq_true rfl) dX9_settled_23 rfl) rfl (fun σ1 => ?_)
    refine fr_aload_n hg 0 rfl dX9_settled_26 rfl ?_
    refine fr_getr hg (q := 0) (q' := 17) fo_X9_47 rfl rfl dX9_settled_27 rfl ?_
    refine fr_aload_n hg 0 rfl dX9_settled_30 rfl ?_
    refine fr_getr hg (q := 0) (q' := 7) fo_X9_19 rfl rfl dX9_settled_31 rfl ?_
    refine fr_aload_n hg 0 rfl dX9_settled_34 rfl ?_
    refine fr_getr hg (q := 0) (q' := 12) fo_X9_33 rfl rfl dX9_settled_35 rfl ?_
    refine fr_cv2 hg mX1_weigh (fr_crV hg (q := 17) mo_X9_358 rfl ⟨_, _, rfl⟩ rfl (by decide) (by decide) (Nat.le_of_ble_eq_true rfl) dX9_settled_38 rfl) rfl (fun σ2 => ?_)
    refine fr_aload_n hg 0 rfl dX9_settled_41 rfl ?_
    refine fr_getr hg (q := 0) (q' := 17) fo_X9_47 rfl rfl dX9_settled_42 rfl ?_
    refine fr_cv2 hg mX1_order (fr_crV hg (q := 17) mo_X9_362 rfl ⟨_, _, rfl⟩ rfl (by decide) (by decide) (Nat.le_of_ble_eq_true rfl) dX9_settled_45 rfl) rfl (fun σ3 => ?_)
    refine fr_aload_n hg 0 rfl dX9_settled_48 rfl ?_
    refine fr_iconst hg (v := 0) (by decide) dX9_settled_49 rfl ?_
    refine fr_puti hg (q := 0) fp_X9_64 rfl rfl rfl rfl dX9_settled_50 rfl ?_
    refine fr_aload_n hg 0 rfl dX9_settled_53 rfl ?_
    refine fr_getr hg (q := 0) (q' := 17) fo_X9_47 rfl rfl dX9_settled_54 rfl ?_
    exact fr_aret hg dX9_settled_57 (fun h => h)
noncomputable def zX1_firstNotDone_L2 (σ : fr_St) (k1 : Int32) (v2 : Int32) : Option ((Int32) ⊕ ((Int32) ⊕ (Unit))) :=
  if k1 ≤ v2 then some (.inr (.inr ())) else if 40 ≤ v2 then some (.inr (.inr ())) else (fr_al 40 σ 18 v2).bind (fun x1 => if x1 = 0 then some (.inr (.inl v2)) else some (.inl (v2 + 1)))
noncomputable def zX1_firstNotDone (σ : fr_St) (a1 : Int32) : Option (Int32) :=
  (fr_loop (fun (b1 : Int32) => zX1_firstNotDone_L2 σ a1 b1) fr_fu 0).bind (fr_ei (fun r => some r) (fun (c2 : Unit) => some (-1)))
set_option maxRecDepth 100000 in
set_option maxHeartbeats 4000000 in
theorem mX1_firstNotDone (a1 : Int32) : fr_MI1 yX1_firstNotDone cX1_firstNotDone 3 .int 0 0 fr_shX (fun w => [.ref (fr_ad w 17), .int a1]) (fun σ => zX1_firstNotDone σ a1) := by
  refine fr_mkI1 (by decide) (fun w => Nat.le_of_ble_eq_true rfl) (fun g w σ hg => ?_)
  show fr_V g w 3 (zX1_firstNotDone σ a1) _ 0 [(0, .ref (fr_ad w 17)), (1, .int a1)] [] σ
  unfold zX1_firstNotDone
  refine fr_iconst hg (v := 0) (by decide) dX1_firstNotDone_0 rfl ?_
  refine fr_istore_n hg (ls' := [(0, .ref (fr_ad w 17)), (1, .int a1), (2, .int 0)]) dX1_firstNotDone_1 rfl (by decide) rfl rfl ?_
  refine fr_lpr (fun (b1 : Int32) => [(0, .ref (fr_ad w 17)), (1, .int a1), (2, .int b1)]) (fun b1 => σ) 30 (fun (c2 : Unit) => []) (fun c2 => σ) [0, 1, 2] rfl rfl (fun r => fr_RI g w .int r σ) (fun r t h1 h2 => ?_) (fun b1 => ?_) (fun c2 => ?_)
  · cases h1; exact h2
  · show fr_V g w _ (zX1_firstNotDone_L2 σ a1 b1) _ _ _ _ _
    unfold zX1_firstNotDone_L2
    refine fr_iload_n hg 2 rfl dX1_firstNotDone_2 rfl ?_
    refine fr_iload_n hg 1 rfl dX1_firstNotDone_3 rfl ?_
    refine fr_icmp_ge hg (m := 30) dX1_firstNotDone_4 (by decide) rfl ?_ ?_
    · exact fr_leaf [] rfl (fun h => h)
    · refine fr_iload_n hg 2 rfl dX1_firstNotDone_7 rfl ?_
      refine fr_bipush hg (v := 40) (by decide) dX1_firstNotDone_8 rfl ?_
      refine fr_icmp_ge hg (m := 30) dX1_firstNotDone_10 (by decide) rfl ?_ ?_
      · exact fr_leaf [] rfl (fun h => h)
      · refine fr_aload_n hg 0 rfl dX1_firstNotDone_13 rfl ?_
        refine fr_getr hg (q := 17) (q' := 18) fo_X1_9 rfl rfl dX1_firstNotDone_14 rfl ?_
        refine fr_iload_n hg 2 rfl dX1_firstNotDone_17 rfl ?_
        refine fr_iaload hg (q := 18) rfl dX1_firstNotDone_18 rfl (fun x3 => ?_)
        refine fr_if_ne hg (m := 24) dX1_firstNotDone_19 (by decide) rfl ?_ ?_
        · refine fr_iinc hg 2 (v := b1 + 1) (ls' := [(0, .ref (fr_ad w 17)), (1, .int a1), (2, .int (b1 + 1))]) dX1_firstNotDone_24 rfl rfl (by decide) rfl rfl ?_
          refine fr_goto hg (n := 2) dX1_firstNotDone_27 (by decide) ?_
          exact fr_leaf [0, 1, 2] rfl (fun h => h)
        · refine fr_iload_n hg 2 rfl dX1_firstNotDone_22 rfl ?_
          exact fr_iret hg (rty := .int) rfl dX1_firstNotDone_23 (fun h => h)
  refine fr_iconst hg (v := (-1)) (by decide) dX1_firstNotDone_30 rfl ?_
  exact fr_iret hg (rty := .int) rfl dX1_firstNotDone_31 (fun h => h)
noncomputable def zX9_judged (σ : fr_St)  : Option (Int32 × fr_St) :=
  (zX9_settled σ).bind (fun p2 => (zX1_firstNotDone p2.2 (p2.2 14 2)).bind (fun r3 => some (r3, p2.2)))
set_option maxRecDepth 100000 in
set_option maxHeartbeats 4000000 in
theorem mX9_judged  : fr_MI2 yX9_judged cX9_judged 1 .int 4 88 fr_shX (fun w => [.ref (fr_ad w 0)]) (fun σ => zX9_judged σ) := by
  refine fr_mkI2 (by decide) (fun w => Nat.le_of_ble_eq_true rfl) (fun g w σ hg => ?_)
  show fr_V g w 1 (zX9_judged σ) _ 0 [(0, .ref (fr_ad w 0))] [] σ
  unfold zX9_judged
  refine fr_aload_n hg 0 rfl dX9_judged_0 rfl ?_
  refine fr_cq2 hg mX9_settled (fr_crV hg (q := 0) mo_X9_155 rfl ⟨_, _, rfl⟩ rfl (by decide) (by decide) (Nat.le_of_ble_eq_true rfl) dX9_judged_1 rfl) rfl (fun p2 hp2 => ?_)
  refine fr_aload_n hg 0 rfl dX9_judged_4 rfl ?_
  refine fr_getr hg (q := 0) (q' := 14) fo_X9_40 rfl rfl dX9_judged_5 rfl ?_
  refine fr_geti hg (q := 14) fo_X9_151 rfl rfl dX9_judged_8 rfl ?_
  refine fr_ci1 hg (mX1_firstNotDone (p2.2 14 2)) (fr_crV hg (q := 17) mo_X9_159 rfl ⟨_, _, rfl⟩ rfl (by decide) (by decide) (Nat.le_of_ble_eq_true rfl) dX9_judged_11 rfl) rfl (fun r3 => ?_)
  exact fr_iret hg (rty := .int) rfl dX9_judged_14 (fun h => h)
noncomputable def zX1_clearedBehind_L3 (σ : fr_St) (k1 : Int32) (k2 : Int32) (v4 : Int32) : Option ((Int32) ⊕ ((Int32) ⊕ (Unit))) :=
  if k1 ≤ v4 then some (.inr (.inr ())) else if 40 ≤ v4 then some (.inr (.inr ())) else (fr_al 40 σ 18 v4).bind (fun x1 => if x1 ≤ 0 then some (.inl (v4 + 1)) else (fr_al 40 σ 16 v4).bind (fun x2 => if x2 = k2 then some (.inr (.inl 1)) else some (.inl (v4 + 1))))
noncomputable def zX1_clearedBehind (σ : fr_St) (a1 : Int32) (a2 : Int32) : Option (Int32) :=
  (fr_loop (fun (b1 : Int32) => zX1_clearedBehind_L3 σ a1 a2 b1) fr_fu 0).bind (fr_ei (fun r => some r) (fun (c2 : Unit) => some 0))
set_option maxRecDepth 100000 in
set_option maxHeartbeats 4000000 in
theorem mX1_clearedBehind (a1 : Int32) (a2 : Int32) : fr_MI1 yX1_clearedBehind cX1_clearedBehind 5 .boolean 0 0 fr_shX (fun w => [.ref (fr_ad w 17), .int a1, .int a2, .ref (fr_ad w 14)]) (fun σ => zX1_clearedBehind σ a1 a2) := by
  refine fr_mkI1 (by decide) (fun w => Nat.le_of_ble_eq_true rfl) (fun g w σ hg => ?_)
  show fr_V g w 5 (zX1_clearedBehind σ a1 a2) _ 0 [(0, .ref (fr_ad w 17)), (1, .int a1), (2, .int a2), (3, .ref (fr_ad w 14))] [] σ
  unfold zX1_clearedBehind
  refine fr_iconst hg (v := 0) (by decide) dX1_clearedBehind_0 rfl ?_
  refine fr_istore hg (ls' := [(0, .ref (fr_ad w 17)), (1, .int a1), (2, .int a2), (3, .ref (fr_ad w 14)), (4, .int 0)]) dX1_clearedBehind_1 (by decide) rfl rfl ?_
  refine fr_lpr (fun (b1 : Int32) => [(0, .ref (fr_ad w 17)), (1, .int a1), (2, .int a2), (3, .ref (fr_ad w 14)), (4, .int b1)]) (fun b1 => σ) 45 (fun (c2 : Unit) => []) (fun c2 => σ) [0, 1, 2, 3, 4] rfl rfl (fun r => fr_RI g w .boolean r σ) (fun r t h1 h2 => ?_) (fun b1 => ?_) (fun c2 => ?_)
  · cases h1; exact h2
  · show fr_V g w _ (zX1_clearedBehind_L3 σ a1 a2 b1) _ _ _ _ _
    unfold zX1_clearedBehind_L3
    refine fr_iload hg 4 rfl dX1_clearedBehind_3 rfl ?_
    refine fr_iload_n hg 1 rfl dX1_clearedBehind_5 rfl ?_
    refine fr_icmp_ge hg (m := 45) dX1_clearedBehind_6 (by decide) rfl ?_ ?_
    · exact fr_leaf [] rfl (fun h => h)
    · refine fr_iload hg 4 rfl dX1_clearedBehind_9 rfl ?_
      refine fr_bipush hg (v := 40) (by decide) dX1_clearedBehind_11 rfl ?_
      refine fr_icmp_ge hg (m := 45) dX1_clearedBehind_13 (by decide) rfl ?_ ?_
      · exact fr_leaf [] rfl (fun h => h)
      · refine fr_aload_n hg 0 rfl dX1_clearedBehind_16 rfl ?_
        refine fr_getr hg (q := 17) (q' := 18) fo_X1_9 rfl rfl dX1_clearedBehind_17 rfl ?_
        refine fr_iload hg 4 rfl dX1_clearedBehind_20 rfl ?_
        refine fr_iaload hg (q := 18) rfl dX1_clearedBehind_22 rfl (fun x3 => ?_)
        refine fr_if_le hg (m := 39) dX1_clearedBehind_23 (by decide) rfl ?_ ?_
        · refine fr_iinc hg 4 (v := b1 + 1) (ls' := [(0, .ref (fr_ad w 17)), (1, .int a1), (2, .int a2), (3, .ref (fr_ad w 14)), (4, .int (b1 + 1))]) dX1_clearedBehind_39 rfl rfl (by decide) rfl rfl ?_
          refine fr_goto hg (n := 3) dX1_clearedBehind_42 (by decide) ?_
          exact fr_leaf [0, 1, 2, 3, 4] rfl (fun h => h)
        · refine fr_aload_n hg 3 rfl dX1_clearedBehind_26 rfl ?_
          refine fr_getr hg (q := 14) (q' := 16) fo_X1_61 rfl rfl dX1_clearedBehind_27 rfl ?_
          refine fr_iload hg 4 rfl dX1_clearedBehind_30 rfl ?_
          refine fr_iaload hg (q := 16) rfl dX1_clearedBehind_32 rfl (fun x4 => ?_)
          refine fr_iload_n hg 2 rfl dX1_clearedBehind_33 rfl ?_
          refine fr_icmp_ne hg (m := 39) dX1_clearedBehind_34 (by decide) rfl ?_ ?_
          · refine fr_iinc hg 4 (v := b1 + 1) (ls' := [(0, .ref (fr_ad w 17)), (1, .int a1), (2, .int a2), (3, .ref (fr_ad w 14)), (4, .int (b1 + 1))]) dX1_clearedBehind_39 rfl rfl (by decide) rfl rfl ?_
            refine fr_goto hg (n := 3) dX1_clearedBehind_42 (by decide) ?_
            exact fr_leaf [0, 1, 2, 3, 4] rfl (fun h => h)
          · refine fr_iconst hg (v := 1) (by decide) dX1_clearedBehind_37 rfl ?_
            exact fr_iret hg (rty := .boolean) rfl dX1_clearedBehind_38 (fun h => h)
  refine fr_iconst hg (v := 0) (by decide) dX1_clearedBehind_45 rfl ?_
  exact fr_iret hg (rty := .boolean) rfl dX1_clearedBehind_46 (fun h => h)
noncomputable def zX9_thick (σ : fr_St) (a1 : Int32) (a2 : Int32) : Option (Int32 × fr_St) :=
  if zX9_within a1 0 (σ 14 2) = 0 then some ((-2), σ) else if zX9_isCell a2 = 0 then some ((-2), σ) else (fr_al 32 σ 6 a2).bind (fun x1 => if x1 = (-1) then some ((-2), σ) else (zX9_settled σ).bind (fun p3 => (zX1_clearedBehind p3.2 a1 a2).bind (fun r4 => if r4 = 0 then (fr_al 32 p3.2 6 a2).bind (fun x5 => some (x5, p3.2)) else some (0, p3.2))))
set_option maxRecDepth 100000 in
set_option maxHeartbeats 4000000 in
theorem mX9_thick (a1 : Int32) (a2 : Int32) : fr_MI2 yX9_thick cX9_thick 3 .int 4 88 fr_shX (fun w => [.ref (fr_ad w 0), .int a1, .int a2]) (fun σ => zX9_thick σ a1 a2) := by
  refine fr_mkI2 (by decide) (fun w => Nat.le_of_ble_eq_true rfl) (fun g w σ hg => ?_)
  show fr_V g w 3 (zX9_thick σ a1 a2) _ 0 [(0, .ref (fr_ad w 0)), (1, .int a1), (2, .int a2)] [] σ
  unfold zX9_thick
  refine fr_iload_n hg 1 rfl dX9_thick_0 rfl ?_
  refine fr_iconst hg (v := 0) (by decide) dX9_thick_1 rfl ?_
  refine fr_aload_n hg 0 rfl dX9_thick_2 rfl ?_
  refine fr_getr hg (q := 0) (q' := 14) fo_X9_40 rfl rfl dX9_thick_3 rfl ?_
  refine fr_geti hg (q := 14) fo_X9_151 rfl rfl dX9_thick_6 rfl ?_
  refine fr_ci0 hg (mX9_within a1 0 (σ 14 2)) (fr_crS hg mo_X9_77 rfl (by decide) (by decide) (Nat.le_of_ble_eq_true rfl) dX9_thick_9 rfl) rfl ?_
  refine fr_if_eq hg (m := 35) dX9_thick_12 (by decide) rfl ?_ ?_
  · refine fr_bipush hg (v := (-2)) (by decide) dX9_thick_35 rfl ?_
    exact fr_iret hg (rty := .int) rfl dX9_thick_37 (fun h => h)
  · refine fr_iload_n hg 2 rfl dX9_thick_15 rfl ?_
    refine fr_ci0 hg (mX9_isCell a2) (fr_crS hg mo_X9_121 rfl (by decide) (by decide) (Nat.le_of_ble_eq_true rfl) dX9_thick_16 rfl) rfl ?_
    refine fr_if_eq hg (m := 35) dX9_thick_19 (by decide) rfl ?_ ?_
    · refine fr_bipush hg (v := (-2)) (by decide) dX9_thick_35 rfl ?_
      exact fr_iret hg (rty := .int) rfl dX9_thick_37 (fun h => h)
    · refine fr_aload_n hg 0 rfl dX9_thick_22 rfl ?_
      refine fr_getr hg (q := 0) (q' := 1) fo_X9_12 rfl rfl dX9_thick_23 rfl ?_
      refine fr_getr hg (q := 1) (q' := 6) fo_X9_162 rfl rfl dX9_thick_26 rfl ?_
      refine fr_iload_n hg 2 rfl dX9_thick_29 rfl ?_
      refine fr_iaload hg (q := 6) rfl dX9_thick_30 rfl (fun x1 => ?_)
      refine fr_iconst hg (v := (-1)) (by decide) dX9_thick_31 rfl ?_
      refine fr_icmp_ne hg (m := 38) dX9_thick_32 (by decide) rfl ?_ ?_
      · refine fr_aload_n hg 0 rfl dX9_thick_38 rfl ?_
        refine fr_cq2 hg mX9_settled (fr_crV hg (q := 0) mo_X9_155 rfl ⟨_, _, rfl⟩ rfl (by decide) (by decide) (Nat.le_of_ble_eq_true rfl) dX9_thick_39 rfl) rfl (fun p3 hp3 => ?_)
        refine fr_iload_n hg 1 rfl dX9_thick_42 rfl ?_
        refine fr_iload_n hg 2 rfl dX9_thick_43 rfl ?_
        refine fr_aload_n hg 0 rfl dX9_thick_44 rfl ?_
        refine fr_getr hg (q := 0) (q' := 14) fo_X9_40 rfl rfl dX9_thick_45 rfl ?_
        refine fr_ci1 hg (mX1_clearedBehind a1 a2) (fr_crV hg (q := 17) mo_X9_165 rfl ⟨_, _, rfl⟩ rfl (by decide) (by decide) (Nat.le_of_ble_eq_true rfl) dX9_thick_48 rfl) rfl (fun r4 => ?_)
        refine fr_if_eq hg (m := 58) dX9_thick_51 (by decide) rfl ?_ ?_
        · refine fr_aload_n hg 0 rfl dX9_thick_58 rfl ?_
          refine fr_getr hg (q := 0) (q' := 1) fo_X9_12 rfl rfl dX9_thick_59 rfl ?_
          refine fr_getr hg (q := 1) (q' := 6) fo_X9_162 rfl rfl dX9_thick_62 rfl ?_
          refine fr_iload_n hg 2 rfl dX9_thick_65 rfl ?_
          refine fr_iaload hg (q := 6) rfl dX9_thick_66 rfl (fun x5 => ?_)
          exact fr_iret hg (rty := .int) rfl dX9_thick_67 (fun h => h)
        · refine fr_iconst hg (v := 0) (by decide) dX9_thick_54 rfl ?_
          refine fr_goto hg (n := 67) dX9_thick_55 (by decide) ?_
          exact fr_iret hg (rty := .int) rfl dX9_thick_67 (fun h => h)
      · refine fr_bipush hg (v := (-2)) (by decide) dX9_thick_35 rfl ?_
        exact fr_iret hg (rty := .int) rfl dX9_thick_37 (fun h => h)
noncomputable def zX1_secondsBehind_L6 (σ : fr_St) (k1 : Int32) (v4 : Int32) (v5 : Int32) : Option ((Int32 × Int32) ⊕ (Int32)) :=
  if k1 ≤ v5 then some (.inr v4) else if 40 ≤ v5 then some (.inr v4) else (fr_al 40 σ 15 v5).bind (fun x1 => if zX9_isTool x1 = 0 then some (.inl (v4 + 0, v5 + 1)) else (fr_al 40 σ 18 v5).bind (fun x2 => (fr_al 4 σ 10 x1).bind (fun x3 => some (.inl (v4 + (x2 * x3), v5 + 1)))))
noncomputable def zX1_secondsBehind (σ : fr_St) (a1 : Int32) : Option (Int32) :=
  (fr_loop (fun (b1 : Int32 × Int32) => zX1_secondsBehind_L6 σ a1 b1.1 b1.2) fr_fu (0, 0)).bind (fun (c2 : Int32) => some c2)
set_option maxRecDepth 100000 in
set_option maxHeartbeats 4000000 in
theorem mX1_secondsBehind (a1 : Int32) : fr_MI1 yX1_secondsBehind cX1_secondsBehind 7 .int 2 42 fr_shX (fun w => [.ref (fr_ad w 17), .int a1, .ref (fr_ad w 14), .ref (fr_ad w 9)]) (fun σ => zX1_secondsBehind σ a1) := by
  refine fr_mkI1 (by decide) (fun w => Nat.le_of_ble_eq_true rfl) (fun g w σ hg => ?_)
  show fr_V g w 7 (zX1_secondsBehind σ a1) _ 0 [(0, .ref (fr_ad w 17)), (1, .int a1), (2, .ref (fr_ad w 14)), (3, .ref (fr_ad w 9))] [] σ
  unfold zX1_secondsBehind
  refine fr_iconst hg (v := 0) (by decide) dX1_secondsBehind_0 rfl ?_
  refine fr_istore hg (ls' := [(0, .ref (fr_ad w 17)), (1, .int a1), (2, .ref (fr_ad w 14)), (3, .ref (fr_ad w 9)), (4, .int 0)]) dX1_secondsBehind_1 (by decide) rfl rfl ?_
  refine fr_iconst hg (v := 0) (by decide) dX1_secondsBehind_3 rfl ?_
  refine fr_istore hg (ls' := [(0, .ref (fr_ad w 17)), (1, .int a1), (2, .ref (fr_ad w 14)), (3, .ref (fr_ad w 9)), (4, .int 0), (5, .int 0)]) dX1_secondsBehind_4 (by decide) rfl rfl ?_
  refine fr_lp (fun (b1 : Int32 × Int32) => [(0, .ref (fr_ad w 17)), (1, .int a1), (2, .ref (fr_ad w 14)), (3, .ref (fr_ad w 9)), (4, .int b1.1), (5, .int b1.2)]) (fun b1 => σ) 66 (fun (c2 : Int32) => [(4, .int c2)]) (fun c2 => σ) [0, 1, 2, 3, 4, 5] rfl rfl (fun b1 => ?_) (fun c2 => ?_)
  · show fr_V g w _ (zX1_secondsBehind_L6 σ a1 b1.1 b1.2) _ _ _ _ _
    unfold zX1_secondsBehind_L6
    refine fr_iload hg 5 rfl dX1_secondsBehind_6 rfl ?_
    refine fr_iload_n hg 1 rfl dX1_secondsBehind_8 rfl ?_
    refine fr_icmp_ge hg (m := 66) dX1_secondsBehind_9 (by decide) rfl ?_ ?_
    · exact fr_leaf [4] rfl (fun h => h)
    · refine fr_iload hg 5 rfl dX1_secondsBehind_12 rfl ?_
      refine fr_bipush hg (v := 40) (by decide) dX1_secondsBehind_14 rfl ?_
      refine fr_icmp_ge hg (m := 66) dX1_secondsBehind_16 (by decide) rfl ?_ ?_
      · exact fr_leaf [4] rfl (fun h => h)
      · refine fr_aload_n hg 2 rfl dX1_secondsBehind_19 rfl ?_
        refine fr_getr hg (q := 14) (q' := 15) fo_X1_58 rfl rfl dX1_secondsBehind_20 rfl ?_
        refine fr_iload hg 5 rfl dX1_secondsBehind_23 rfl ?_
        refine fr_iaload hg (q := 15) rfl dX1_secondsBehind_25 rfl (fun x3 => ?_)
        refine fr_istore hg (ls' := [(0, .ref (fr_ad w 17)), (1, .int a1), (2, .ref (fr_ad w 14)), (3, .ref (fr_ad w 9)), (4, .int b1.1), (5, .int b1.2), (6, .int x3)]) dX1_secondsBehind_26 (by decide) rfl rfl ?_
        refine fr_iload hg 4 rfl dX1_secondsBehind_28 rfl ?_
        refine fr_iload hg 6 rfl dX1_secondsBehind_30 rfl ?_
        refine fr_ci0 hg (mX9_isTool x3) (fr_crN hg mo_X1_64 rfl (by decide) (by decide) (Nat.le_of_ble_eq_true rfl) dX1_secondsBehind_32 rfl) rfl ?_
        refine fr_if_eq hg (m := 56) dX1_secondsBehind_35 (by decide) rfl ?_ ?_
        · refine fr_iconst hg (v := 0) (by decide) dX1_secondsBehind_56 rfl ?_
          refine fr_iadd hg dX1_secondsBehind_57 rfl ?_
          refine fr_istore hg (ls' := [(0, .ref (fr_ad w 17)), (1, .int a1), (2, .ref (fr_ad w 14)), (3, .ref (fr_ad w 9)), (4, .int (b1.1 + 0)), (5, .int b1.2), (6, .int x3)]) dX1_secondsBehind_58 (by decide) rfl rfl ?_
          refine fr_iinc hg 5 (v := b1.2 + 1) (ls' := [(0, .ref (fr_ad w 17)), (1, .int a1), (2, .ref (fr_ad w 14)), (3, .ref (fr_ad w 9)), (4, .int (b1.1 + 0)), (5, .int (b1.2 + 1)), (6, .int x3)]) dX1_secondsBehind_60 rfl rfl (by decide) rfl rfl ?_
          refine fr_goto hg (n := 6) dX1_secondsBehind_63 (by decide) ?_
          exact fr_leaf [0, 1, 2, 3, 4, 5] rfl (fun h => h)
        · refine fr_aload_n hg 0 rfl dX1_secondsBehind_38 rfl ?_
          refine fr_getr hg (q := 17) (q' := 18) fo_X1_9 rfl rfl dX1_secondsBehind_39 rfl ?_
          refine fr_iload hg 5 rfl dX1_secondsBehind_42 rfl ?_
          refine fr_iaload hg (q := 18) rfl dX1_secondsBehind_44 rfl (fun x4 => ?_)
          refine fr_aload_n hg 3 rfl dX1_secondsBehind_45 rfl ?_
          refine fr_getr hg (q := 9) (q' := 10) fo_X1_95 rfl rfl dX1_secondsBehind_46 rfl ?_
          refine fr_iload hg 6 rfl dX1_secondsBehind_49 rfl ?_
          refine fr_iaload hg (q := 10) rfl dX1_secondsBehind_51 rfl (fun x5 => ?_)
          refine fr_imul hg dX1_secondsBehind_52 rfl ?_
          refine fr_goto hg (n := 57) dX1_secondsBehind_53 (by decide) ?_
          refine fr_iadd hg dX1_secondsBehind_57 rfl ?_
          refine fr_istore hg (ls' := [(0, .ref (fr_ad w 17)), (1, .int a1), (2, .ref (fr_ad w 14)), (3, .ref (fr_ad w 9)), (4, .int (b1.1 + (x4 * x5))), (5, .int b1.2), (6, .int x3)]) dX1_secondsBehind_58 (by decide) rfl rfl ?_
          refine fr_iinc hg 5 (v := b1.2 + 1) (ls' := [(0, .ref (fr_ad w 17)), (1, .int a1), (2, .ref (fr_ad w 14)), (3, .ref (fr_ad w 9)), (4, .int (b1.1 + (x4 * x5))), (5, .int (b1.2 + 1)), (6, .int x3)]) dX1_secondsBehind_60 rfl rfl (by decide) rfl rfl ?_
          refine fr_goto hg (n := 6) dX1_secondsBehind_63 (by decide) ?_
          exact fr_leaf [0, 1, 2, 3, 4, 5] rfl (fun h => h)
  refine fr_iload hg 0 rfl dX1_secondsBehind_66 rfl ?_
  exact fr_iret hg (rty := .int) rfl dX1_secondsBehind_68 (fun h => h)
noncomputable def zX1_riskBehind_L6 (σ : fr_St) (k1 : Int32) (v4 : Int32) (v5 : Int32) : Option ((Int32 × Int32) ⊕ (Int32)) :=
  if 32 ≤ v5 then some (.inr v4) else (fr_al 32 σ 6 v5).bind (fun x1 => if x1 ≤ 0 then some (.inl (v4 + 0, v5 + 1)) else (fr_al 32 σ 21 v5).bind (fun x2 => some (.inl (v4 + x2, v5 + 1))))
noncomputable def zX1_riskBehind_L48 (σ : fr_St) (k1 : Int32) (v4 : Int32) (v5 : Int32) : Option ((Int32 × Int32) ⊕ (Int32)) :=
  if k1 ≤ v5 then some (.inr v4) else if 40 ≤ v5 then some (.inr v4) else (fr_al 40 σ 16 v5).bind (fun x1 => (fr_al 40 σ 18 v5).bind (fun x2 => if x2 ≤ 0 then some (.inl (v4 - 0, v5 + 1)) else if zX9_isCell x1 = 0 then some (.inl (v4 - 0, v5 + 1)) else (fr_al 32 σ 21 x1).bind (fun x3 => some (.inl (v4 - x3, v5 + 1)))))
noncomputable def zX1_riskBehind (σ : fr_St) (a1 : Int32) : Option (Int32) :=
  (fr_loop (fun (b1 : Int32 × Int32) => zX1_riskBehind_L6 σ a1 b1.1 b1.2) fr_fu (0, 0)).bind (fun (c2 : Int32) => (fr_loop (fun (b5 : Int32 × Int32) => zX1_riskBehind_L48 σ a1 b5.1 b5.2) fr_fu (c2, 0)).bind (fun (c6 : Int32) => some c6))
set_option maxRecDepth 100000 in
set_option maxHeartbeats 4000000 in
theorem mX1_riskBehind (a1 : Int32) : fr_MI1 yX1_riskBehind cX1_riskBehind 7 .int 2 42 fr_shX (fun w => [.ref (fr_ad w 17), .int a1, .ref (fr_ad w 14), .ref (fr_ad w 1)]) (fun σ => zX1_riskBehind σ a1) := by
  refine fr_mkI1 (by decide) (fun w => Nat.le_of_ble_eq_true rfl) (fun g w σ hg => ?_)
  show fr_V g w 7 (zX1_riskBehind σ a1) _ 0 [(0, .ref (fr_ad w 17)), (1, .int a1), (2, .ref (fr_ad w 14)), (3, .ref (fr_ad w 1))] [] σ
  unfold zX1_riskBehind
  refine fr_iconst hg (v := 0) (by decide) dX1_riskBehind_0 rfl ?_
  refine fr_istore hg (ls' := [(0, .ref (fr_ad w 17)), (1, .int a1), (2, .ref (fr_ad w 14)), (3, .ref (fr_ad w 1)), (4, .int 0)]) dX1_riskBehind_1 (by decide) rfl rfl ?_
  refine fr_iconst hg (v := 0) (by decide) dX1_riskBehind_3 rfl ?_
  refine fr_istore hg (ls' := [(0, .ref (fr_ad w 17)), (1, .int a1), (2, .ref (fr_ad w 14)), (3, .ref (fr_ad w 1)), (4, .int 0), (5, .int 0)]) dX1_riskBehind_4 (by decide) rfl rfl ?_
  refine fr_lp (fun (b1 : Int32 × Int32) => [(0, .ref (fr_ad w 17)), (1, .int a1), (2, .ref (fr_ad w 14)), (3, .ref (fr_ad w 1)), (4, .int b1.1), (5, .int b1.2)]) (fun b1 => σ) 45 (fun (c2 : Int32) => [(0, .ref (fr_ad w 17)), (1, .int a1), (2, .ref (fr_ad w 14)), (4, .int c2)]) (fun c2 => σ) [0, 1, 2, 3, 4, 5] rfl rfl (fun b1 => ?_) (fun c2 => ?_)
  · show fr_V g w _ (zX1_riskBehind_L6 σ a1 b1.1 b1.2) _ _ _ _ _
    unfold zX1_riskBehind_L6
    refine fr_iload hg 5 rfl dX1_riskBehind_6 rfl ?_
    refine fr_bipush hg (v := 32) (by decide) dX1_riskBehind_8 rfl ?_
    refine fr_icmp_ge hg (m := 45) dX1_riskBehind_10 (by decide) rfl ?_ ?_
    · exact fr_leaf [0, 1, 2, 4] rfl (fun h => h)
    · refine fr_iload hg 4 rfl dX1_riskBehind_13 rfl ?_
      refine fr_aload_n hg 3 rfl dX1_riskBehind_15 rfl ?_
      refine fr_getr hg (q := 1) (q' := 6) fo_X1_37 rfl rfl dX1_riskBehind_16 rfl ?_
      refine fr_iload hg 5 rfl dX1_riskBehind_19 rfl ?_
      refine fr_iaload hg (q := 6) rfl dX1_riskBehind_21 rfl (fun x3 => ?_)
      refine fr_if_le hg (m := 35) dX1_riskBehind_22 (by decide) rfl ?_ ?_
      · refine fr_iconst hg (v := 0) (by decide) dX1_riskBehind_35 rfl ?_
        refine fr_iadd hg dX1_riskBehind_36 rfl ?_
        refine fr_istore hg (ls' := [(0, .ref (fr_ad w 17)), (1, .int a1), (2, .ref (fr_ad w 14)), (3, .ref (fr_ad w 1)), (4, .int (b1.1 + 0)), (5, .int b1.2)]) dX1_riskBehind_37 (by decide) rfl rfl ?_
        refine fr_iinc hg 5 (v := b1.2 + 1) (ls' := [(0, .ref (fr_ad w 17)), (1, .int a1), (2, .ref (fr_ad w 14)), (3, .ref (fr_ad w 1)), (4, .int (b1.1 + 0)), (5, .int (b1.2 + 1))]) dX1_riskBehind_39 rfl rfl (by decide) rfl rfl ?_
        refine fr_goto hg (n := 6) dX1_riskBehind_42 (by decide) ?_
        exact fr_leaf [0, 1, 2, 3, 4, 5] rfl (fun h => h)
      · refine fr_aload_n hg 0 rfl dX1_riskBehind_25 rfl ?_
        refine fr_getr hg (q := 17) (q' := 21) fo_X1_21 rfl rfl dX1_riskBehind_26 rfl ?_
        refine fr_iload hg 5 rfl dX1_riskBehind_29 rfl ?_
        refine fr_iaload hg (q := 21) rfl dX1_riskBehind_31 rfl (fun x4 => ?_)
        refine fr_goto hg (n := 36) dX1_riskBehind_32 (by decide) ?_
        refine fr_iadd hg dX1_riskBehind_36 rfl ?_
        refine fr_istore hg (ls' := [(0, .ref (fr_ad w 17)), (1, .int a1), (2, .ref (fr_ad w 14)), (3, .ref (fr_ad w 1)), (4, .int (b1.1 + x4)), (5, .int b1.2)]) dX1_riskBehind_37 (by decide) rfl rfl ?_
        refine fr_iinc hg 5 (v := b1.2 + 1) (ls' := [(0, .ref (fr_ad w 17)), (1, .int a1), (2, .ref (fr_ad w 14)), (3, .ref (fr_ad w 1)), (4, .int (b1.1 + x4)), (5, .int (b1.2 + 1))]) dX1_riskBehind_39 rfl rfl (by decide) rfl rfl ?_
        refine fr_goto hg (n := 6) dX1_riskBehind_42 (by decide) ?_
        exact fr_leaf [0, 1, 2, 3, 4, 5] rfl (fun h => h)
  refine fr_iconst hg (v := 0) (by decide) dX1_riskBehind_45 rfl ?_
  refine fr_istore hg (ls' := [(0, .ref (fr_ad w 17)), (1, .int a1), (2, .ref (fr_ad w 14)), (4, .int c2), (5, .int 0)]) dX1_riskBehind_46 (by decide) rfl rfl ?_
  refine fr_lp (fun (b5 : Int32 × Int32) => [(0, .ref (fr_ad w 17)), (1, .int a1), (2, .ref (fr_ad w 14)), (4, .int b5.1), (5, .int b5.2)]) (fun b5 => σ) 110 (fun (c6 : Int32) => [(4, .int c6)]) (fun c6 => σ) [0, 1, 2, 3, 4] rfl rfl (fun b5 => ?_) (fun c6 => ?_)
  · show fr_V g w _ (zX1_riskBehind_L48 σ a1 b5.1 b5.2) _ _ _ _ _
    unfold zX1_riskBehind_L48
    refine fr_iload hg 4 rfl dX1_riskBehind_48 rfl ?_
    refine fr_iload_n hg 1 rfl dX1_riskBehind_50 rfl ?_
    refine fr_icmp_ge hg (m := 110) dX1_riskBehind_51 (by decide) rfl ?_ ?_
    · exact fr_leaf [3] rfl (fun h => h)
    · refine fr_iload hg 4 rfl dX1_riskBehind_54 rfl ?_
      refine fr_bipush hg (v := 40) (by decide) dX1_riskBehind_56 rfl ?_
      refine fr_icmp_ge hg (m := 110) dX1_riskBehind_58 (by decide) rfl ?_ ?_
      · exact fr_leaf [3] rfl (fun h => h)
      · refine fr_aload_n hg 2 rfl dX1_riskBehind_61 rfl ?_
        refine fr_getr hg (q := 14) (q' := 16) fo_X1_61 rfl rfl dX1_riskBehind_62 rfl ?_
        refine fr_iload hg 4 rfl dX1_riskBehind_65 rfl ?_
        refine fr_iaload hg (q := 16) rfl dX1_riskBehind_67 rfl (fun x7 => ?_)
        refine fr_istore hg (ls' := [(0, .ref (fr_ad w 17)), (1, .int a1), (2, .ref (fr_ad w 14)), (4, .int b5.1), (5, .int b5.2), (6, .int x7)]) dX1_riskBehind_68 (by decide) rfl rfl ?_
        refine fr_iload hg 3 rfl dX1_riskBehind_70 rfl ?_
        refine fr_aload_n hg 0 rfl dX1_riskBehind_72 rfl ?_
        refine fr_getr hg (q := 17) (q' := 18) fo_X1_9 rfl rfl dX1_riskBehind_73 rfl ?_
        refine fr_iload hg 4 rfl dX1_riskBehind_76 rfl ?_
        refine fr_iaload hg (q := 18) rfl dX1_riskBehind_78 rfl (fun x8 => ?_)
        refine fr_if_le hg (m := 100) dX1_riskBehind_79 (by decide) rfl ?_ ?_
        · refine fr_iconst hg (v := 0) (by decide) dX1_riskBehind_100 rfl ?_
          refine fr_isub hg dX1_riskBehind_101 rfl ?_
          refine fr_istore hg (ls' := [(0, .ref (fr_ad w 17)), (1, .int a1), (2, .ref (fr_ad w 14)), (4, .int (b5.1 - 0)), (5, .int b5.2), (6, .int x7)]) dX1_riskBehind_102 (by decide) rfl rfl ?_
          refine fr_iinc hg 4 (v := b5.2 + 1) (ls' := [(0, .ref (fr_ad w 17)), (1, .int a1), (2, .ref (fr_ad w 14)), (4, .int (b5.1 - 0)), (5, .int (b5.2 + 1)), (6, .int x7)]) dX1_riskBehind_104 rfl rfl (by decide) rfl rfl ?_
          refine fr_goto hg (n := 48) dX1_riskBehind_107 (by decide) ?_
          exact fr_leaf [0, 1, 2, 3, 4] rfl (fun h => h)
        · refine fr_iload hg 5 rfl dX1_riskBehind_82 rfl ?_
          refine fr_ci0 hg (mX9_isCell x7) (fr_crN hg mo_X1_68 rfl (by decide) (by decide) (Nat.le_of_ble_eq_true rfl) dX1_riskBehind_84 rfl) rfl ?_
          refine fr_if_eq hg (m := 100) dX1_riskBehind_87 (by decide) rfl ?_ ?_
          · refine fr_iconst hg (v := 0) (by decide) dX1_riskBehind_100 rfl ?_
            refine fr_isub hg dX1_riskBehind_101 rfl ?_
            refine fr_istore hg (ls' := [(0, .ref (fr_ad w 17)), (1, .int a1), (2, .ref (fr_ad w 14)), (4, .int (b5.1 - 0)), (5, .int b5.2), (6, .int x7)]) dX1_riskBehind_102 (by decide) rfl rfl ?_
            refine fr_iinc hg 4 (v := b5.2 + 1) (ls' := [(0, .ref (fr_ad w 17)), (1, .int a1), (2, .ref (fr_ad w 14)), (4, .int (b5.1 - 0)), (5, .int (b5.2 + 1)), (6, .int x7)]) dX1_riskBehind_104 rfl rfl (by decide) rfl rfl ?_
            refine fr_goto hg (n := 48) dX1_riskBehind_107 (by decide) ?_
            exact fr_leaf [0, 1, 2, 3, 4] rfl (fun h => h)
          · refine fr_aload_n hg 0 rfl dX1_riskBehind_90 rfl ?_
            refine fr_getr hg (q := 17) (q' := 21) fo_X1_21 rfl rfl dX1_riskBehind_91 rfl ?_
            refine fr_iload hg 5 rfl dX1_riskBehind_94 rfl ?_
            refine fr_iaload hg (q := 21) rfl dX1_riskBehind_96 rfl (fun x9 => ?_)
            refine fr_goto hg (n := 101) dX1_riskBehind_97 (by decide) ?_
            refine fr_isub hg dX1_riskBehind_101 rfl ?_
            refine fr_istore hg (ls' := [(0, .ref (fr_ad w 17)), (1, .int a1), (2, .ref (fr_ad w 14)), (4, .int (b5.1 - x9)), (5, .int b5.2), (6, .int x7)]) dX1_riskBehind_102 (by decide) rfl rfl ?_
            refine fr_iinc hg 4 (v := b5.2 + 1) (ls' := [(0, .ref (fr_ad w 17)), (1, .int a1), (2, .ref (fr_ad w 14)), (4, .int (b5.1 - x9)), (5, .int (b5.2 + 1)), (6, .int x7)]) dX1_riskBehind_104 rfl rfl (by decide) rfl rfl ?_
            refine fr_goto hg (n := 48) dX1_riskBehind_107 (by decide) ?_
            exact fr_leaf [0, 1, 2, 3, 4] rfl (fun h => h)
  refine fr_iload hg 0 rfl dX1_riskBehind_110 rfl ?_
  exact fr_iret hg (rty := .int) rfl dX1_riskBehind_112 (fun h => h)
noncomputable def zX1_doneBehind_L4 (σ : fr_St) (k1 : Int32) (v2 : Int32) (v3 : Int32) : Option ((Int32 × Int32) ⊕ (Int32)) :=
  if k1 ≤ v3 then some (.inr v2) else if 40 ≤ v3 then some (.inr v2) else (fr_al 40 σ 18 v3).bind (fun x1 => if x1 ≤ 0 then some (.inl (v2 + 0, v3 + 1)) else some (.inl (v2 + 1, v3 + 1)))
noncomputable def zX1_doneBehind (σ : fr_St) (a1 : Int32) : Option (Int32) :=
  (fr_loop (fun (b1 : Int32 × Int32) => zX1_doneBehind_L4 σ a1 b1.1 b1.2) fr_fu (0, 0)).bind (fun (c2 : Int32) => some c2)
set_option maxRecDepth 100000 in
set_option maxHeartbeats 4000000 in
theorem mX1_doneBehind (a1 : Int32) : fr_MI1 yX1_doneBehind cX1_doneBehind 4 .int 0 0 fr_shX (fun w => [.ref (fr_ad w 17), .int a1]) (fun σ => zX1_doneBehind σ a1) := by
  refine fr_mkI1 (by decide) (fun w => Nat.le_of_ble_eq_true rfl) (fun g w σ hg => ?_)
  show fr_V g w 4 (zX1_doneBehind σ a1) _ 0 [(0, .ref (fr_ad w 17)), (1, .int a1)] [] σ
  unfold zX1_doneBehind
  refine fr_iconst hg (v := 0) (by decide) dX1_doneBehind_0 rfl ?_
  refine fr_istore_n hg (ls' := [(0, .ref (fr_ad w 17)), (1, .int a1), (2, .int 0)]) dX1_doneBehind_1 rfl (by decide) rfl rfl ?_
  refine fr_iconst hg (v := 0) (by decide) dX1_doneBehind_2 rfl ?_
  refine fr_istore_n hg (ls' := [(0, .ref (fr_ad w 17)), (1, .int a1), (2, .int 0), (3, .int 0)]) dX1_doneBehind_3 rfl (by decide) rfl rfl ?_
  refine fr_lp (fun (b1 : Int32 × Int32) => [(0, .ref (fr_ad w 17)), (1, .int a1), (2, .int b1.1), (3, .int b1.2)]) (fun b1 => σ) 38 (fun (c2 : Int32) => [(2, .int c2)]) (fun c2 => σ) [0, 1, 2, 3] rfl rfl (fun b1 => ?_) (fun c2 => ?_)
  · show fr_V g w _ (zX1_doneBehind_L4 σ a1 b1.1 b1.2) _ _ _ _ _
    unfold zX1_doneBehind_L4
    refine fr_iload_n hg 3 rfl dX1_doneBehind_4 rfl ?_
    refine fr_iload_n hg 1 rfl dX1_doneBehind_5 rfl ?_
    refine fr_icmp_ge hg (m := 38) dX1_doneBehind_6 (by decide) rfl ?_ ?_
    · exact fr_leaf [2] rfl (fun h => h)
    · refine fr_iload_n hg 3 rfl dX1_doneBehind_9 rfl ?_
      refine fr_bipush hg (v := 40) (by decide) dX1_doneBehind_10 rfl ?_
      refine fr_icmp_ge hg (m := 38) dX1_doneBehind_12 (by decide) rfl ?_ ?_
      · exact fr_leaf [2] rfl (fun h => h)
      · refine fr_iload_n hg 2 rfl dX1_doneBehind_15 rfl ?_
        refine fr_aload_n hg 0 rfl dX1_doneBehind_16 rfl ?_
        refine fr_getr hg (q := 17) (q' := 18) fo_X1_9 rfl rfl dX1_doneBehind_17 rfl ?_
        refine fr_iload_n hg 3 rfl dX1_doneBehind_20 rfl ?_
        refine fr_iaload hg (q := 18) rfl dX1_doneBehind_21 rfl (fun x3 => ?_)
        refine fr_if_le hg (m := 29) dX1_doneBehind_22 (by decide) rfl ?_ ?_
        · refine fr_iconst hg (v := 0) (by decide) dX1_doneBehind_29 rfl ?_
          refine fr_iadd hg dX1_doneBehind_30 rfl ?_
          refine fr_istore_n hg (ls' := [(0, .ref (fr_ad w 17)), (1, .int a1), (2, .int (b1.1 + 0)), (3, .int b1.2)]) dX1_doneBehind_31 rfl (by decide) rfl rfl ?_
          refine fr_iinc hg 3 (v := b1.2 + 1) (ls' := [(0, .ref (fr_ad w 17)), (1, .int a1), (2, .int (b1.1 + 0)), (3, .int (b1.2 + 1))]) dX1_doneBehind_32 rfl rfl (by decide) rfl rfl ?_
          refine fr_goto hg (n := 4) dX1_doneBehind_35 (by decide) ?_
          exact fr_leaf [0, 1, 2, 3] rfl (fun h => h)
        · refine fr_iconst hg (v := 1) (by decide) dX1_doneBehind_25 rfl ?_
          refine fr_goto hg (n := 30) dX1_doneBehind_26 (by decide) ?_
          refine fr_iadd hg dX1_doneBehind_30 rfl ?_
          refine fr_istore_n hg (ls' := [(0, .ref (fr_ad w 17)), (1, .int a1), (2, .int (b1.1 + 1)), (3, .int b1.2)]) dX1_doneBehind_31 rfl (by decide) rfl rfl ?_
          refine fr_iinc hg 3 (v := b1.2 + 1) (ls' := [(0, .ref (fr_ad w 17)), (1, .int a1), (2, .int (b1.1 + 1)), (3, .int (b1.2 + 1))]) dX1_doneBehind_32 rfl rfl (by decide) rfl rfl ?_
          refine fr_goto hg (n := 4) dX1_doneBehind_35 (by decide) ?_
          exact fr_leaf [0, 1, 2, 3] rfl (fun h => h)
  refine fr_iload_n hg 0 rfl dX1_doneBehind_38 rfl ?_
  exact fr_iret hg (rty := .int) rfl dX1_doneBehind_39 (fun h => h)
