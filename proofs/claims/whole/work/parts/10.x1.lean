def zX9_within (a1 : Int32) (a2 : Int32) (a3 : Int32) : Int32 :=
  if a1 < a2 then 0 else if a3 < a1 then 0 else 1
theorem zbX9_within (a1 : Int32) (a2 : Int32) (a3 : Int32) : zX9_within a1 a2 a3 = 0 ∨ zX9_within a1 a2 a3 = 1 := by
  unfold zX9_within
  first | exact Or.inl rfl | ((repeat' split) <;> first | exact Or.inl rfl | exact Or.inr rfl)
set_option maxRecDepth 100000 in
set_option maxHeartbeats 4000000 in
theorem mX9_within (a1 : Int32) (a2 : Int32) (a3 : Int32) : fr_MI0 yX9_within cX9_within 3 .boolean 0 0 fr_shX (fun w => [.int a1, .int a2, .int a3]) (fun σ => zX9_within a1 a2 a3) := by
  refine fr_mkI0 (by decide) (fun w => Nat.le_of_ble_eq_true rfl) (fun g w σ hg => ?_)
  show fr_V g w 3 (some (zX9_within a1 a2 a3)) _ 0 [(0, .int a1), (1, .int a2), (2, .int a3)] [] σ
  unfold zX9_within
  refine fr_iload_n hg 0 rfl dX9_within_0 rfl ?_
  refine fr_iload_n hg 1 rfl dX9_within_1 rfl ?_
  refine fr_some_ite ?_
  refine fr_icmp_lt hg (m := 14) dX9_within_2 (by decide) rfl ?_ ?_
  · refine fr_iconst hg (v := 0) (by decide) dX9_within_14 rfl ?_
    exact fr_iret hg (rty := .boolean) rfl dX9_within_15 (fun h => h)
  · refine fr_iload_n hg 0 rfl dX9_within_5 rfl ?_
    refine fr_iload_n hg 2 rfl dX9_within_6 rfl ?_
    refine fr_some_ite ?_
    refine fr_icmp_gt hg (m := 14) dX9_within_7 (by decide) rfl ?_ ?_
    · refine fr_iconst hg (v := 0) (by decide) dX9_within_14 rfl ?_
      exact fr_iret hg (rty := .boolean) rfl dX9_within_15 (fun h => h)
    · refine fr_iconst hg (v := 1) (by decide) dX9_within_10 rfl ?_
      refine fr_goto hg (n := 15) dX9_within_11 (by decide) ?_
      exact fr_iret hg (rty := .boolean) rfl dX9_within_15 (fun h => h)
def zX9_isText (a1 : Int32) : Int32 :=
  zX9_within a1 0 1
theorem zbX9_isText (a1 : Int32) : zX9_isText a1 = 0 ∨ zX9_isText a1 = 1 := by
  unfold zX9_isText
  first | exact zbX9_within a1 0 1 | ((repeat' split) <;> first | exact Or.inl rfl | exact Or.inr rfl)
set_option maxRecDepth 100000 in
set_option maxHeartbeats 4000000 in
theorem mX9_isText (a1 : Int32) : fr_MI0 yX9_isText cX9_isText 1 .boolean 1 22 fr_shX (fun w => [.int a1]) (fun σ => zX9_isText a1) := by
  refine fr_mkI0 (by decide) (fun w => Nat.le_of_ble_eq_true rfl) (fun g w σ hg => ?_)
  show fr_V g w 1 (some (zX9_isText a1)) _ 0 [(0, .int a1)] [] σ
  unfold zX9_isText
  refine fr_iload_n hg 0 rfl dX9_isText_0 rfl ?_
  refine fr_iconst hg (v := 0) (by decide) dX9_isText_1 rfl ?_
  refine fr_iconst hg (v := 1) (by decide) dX9_isText_2 rfl ?_
  refine fr_ci0 hg (mX9_within a1 0 1) (fr_crS hg mo_X9_77 rfl (by decide) (by decide) (Nat.le_of_ble_eq_true rfl) dX9_isText_3 rfl) rfl ?_
  exact fr_iret hg (rty := .boolean) (fr_nb (zbX9_within a1 0 1)) dX9_isText_6 (fun h => h)
noncomputable def zX9_scriptOf (σ : fr_St) (a1 : Int32) : Option (Nat × fr_St) :=
  if a1 = 0 then some (0, σ) else some (1, σ)
set_option maxRecDepth 100000 in
set_option maxHeartbeats 4000000 in
theorem mX9_scriptOf (a1 : Int32) : fr_MR2 yX9_scriptOf cX9_scriptOf 2 (.object "FrostHole$Script") 0 0 fr_shX (fun w => [.ref (fr_ad w 0), .int a1]) (fun r => 2 + r) (fun σ => zX9_scriptOf σ a1) := by
  refine fr_mkR2 (by decide) ⟨_, rfl⟩ (fun w => Nat.le_of_ble_eq_true rfl) (fun g w σ hg => ?_)
  show fr_V g w 2 (zX9_scriptOf σ a1) _ 0 [(0, .ref (fr_ad w 0)), (1, .int a1)] [] σ
  unfold zX9_scriptOf
  refine fr_iload_n hg 1 rfl dX9_scriptOf_0 rfl ?_
  refine fr_if_ne hg (m := 14) dX9_scriptOf_1 (by decide) rfl ?_ ?_
  · refine fr_aload_n hg 0 rfl dX9_scriptOf_14 rfl ?_
    refine fr_getr hg (q := 0) (q' := 7) fo_X9_19 rfl rfl dX9_scriptOf_15 rfl ?_
    refine fr_getr hg (q := 7) (q' := 3) fo_X9_289 rfl rfl dX9_scriptOf_18 rfl ?_
    exact fr_aret hg dX9_scriptOf_21 (fun h => h)
  · refine fr_aload_n hg 0 rfl dX9_scriptOf_4 rfl ?_
    refine fr_getr hg (q := 0) (q' := 1) fo_X9_12 rfl rfl dX9_scriptOf_5 rfl ?_
    refine fr_getr hg (q := 1) (q' := 2) fo_X9_285 rfl rfl dX9_scriptOf_8 rfl ?_
    refine fr_goto hg (n := 21) dX9_scriptOf_11 (by decide) ?_
    exact fr_aret hg dX9_scriptOf_21 (fun h => h)
theorem sx_so {σ : fr_St} {a : Int32} {p : Nat × fr_St} (h : zX9_scriptOf σ a = some p) : p.1 < 2 := by
  unfold zX9_scriptOf at h
  split at h <;> (cases h; first | (show 0 < 2; decide) | (show 1 < 2; decide))
def zX4_isFull (σ : fr_St) (t : Nat) : Int32 :=
  if σ (2 + t) 1 < (Int32.ofNat (fr_bl t)) then 0 else 1
theorem zbX4_isFull (σ : fr_St) (t : Nat) : zX4_isFull σ t = 0 ∨ zX4_isFull σ t = 1 := by
  unfold zX4_isFull
  first | exact Or.inl rfl | ((repeat' split) <;> first | exact Or.inl rfl | exact Or.inr rfl)
set_option maxRecDepth 100000 in
set_option maxHeartbeats 4000000 in
theorem mX4_isFull (t : Nat) (ht : t < 2) : fr_MI0 yX4_isFull cX4_isFull 1 .boolean 0 0 fr_shX (fun w => [.ref (fr_ad w (2 + t))]) (fun σ => zX4_isFull σ t) := by
  refine fr_mkI0 (by decide) (fun w => Nat.le_of_ble_eq_true rfl) (fun g w σ hg => ?_)
  show fr_V g w 1 (some (zX4_isFull σ t)) _ 0 [(0, .ref (fr_ad w (2 + t)))] [] σ
  unfold zX4_isFull
  refine fr_aload_n hg 0 rfl dX4_isFull_0 rfl ?_
  refine fr_geti hg (q := (2 + t)) fo_X4_7 (sx_2 ht) rfl dX4_isFull_1 rfl ?_
  refine fr_aload_n hg 0 rfl dX4_isFull_4 rfl ?_
  refine fr_getr hg (q := (2 + t)) (q' := (4 + t)) fo_X4_13 (sx_2 ht) rfl dX4_isFull_5 rfl ?_
  refine fr_alen hg (q := (4 + t)) (v := (Int32.ofNat (fr_bl t))) (sx_4 ht) rfl dX4_isFull_8 rfl ?_
  refine fr_some_ite ?_
  refine fr_icmp_lt hg (m := 16) dX4_isFull_9 (by decide) rfl ?_ ?_
  · refine fr_iconst hg (v := 0) (by decide) dX4_isFull_16 rfl ?_
    exact fr_iret hg (rty := .boolean) rfl dX4_isFull_17 (fun h => h)
  · refine fr_iconst hg (v := 1) (by decide) dX4_isFull_12 rfl ?_
    refine fr_goto hg (n := 17) dX4_isFull_13 (by decide) ?_
    exact fr_iret hg (rty := .boolean) rfl dX4_isFull_17 (fun h => h)
noncomputable def zX4_append (σ : fr_St) (t : Nat) (a1 : Int32) : Option (fr_St) :=
  if (Int32.ofNat (fr_bl t)) ≤ σ (2 + t) 1 then some σ else (fr_as (fr_bl t) σ (4 + t) (σ (2 + t) 1) a1).bind (fun σ1 => some (fr_put σ1 (2 + t) 1 ((σ1 (2 + t) 1) + 1)))
set_option maxRecDepth 100000 in
set_option maxHeartbeats 4000000 in
theorem mX4_append (t : Nat) (ht : t < 2) (a1 : Int32) : fr_MV2 yX4_append cX4_append 2 0 0 fr_shX (fun w => [.ref (fr_ad w (2 + t)), .int a1]) (fun σ => zX4_append σ t a1) := by
  refine fr_mkV2 (by decide) (fun w => Nat.le_of_ble_eq_true rfl) (fun g w σ hg => ?_)
  show fr_V g w 2 (zX4_append σ t a1) _ 0 [(0, .ref (fr_ad w (2 + t))), (1, .int a1)] [] σ
  unfold zX4_append
  refine fr_aload_n hg 0 rfl dX4_append_0 rfl ?_
  refine fr_geti hg (q := (2 + t)) fo_X4_7 (sx_2 ht) rfl dX4_append_1 rfl ?_
  refine fr_aload_n hg 0 rfl dX4_append_4 rfl ?_
  refine fr_getr hg (q := (2 + t)) (q' := (4 + t)) fo_X4_13 (sx_2 ht) rfl dX4_append_5 rfl ?_
  refine fr_alen hg (q := (4 + t)) (v := (Int32.ofNat (fr_bl t))) (sx_4 ht) rfl dX4_append_8 rfl ?_
  refine fr_icmp_ge hg (m := 32) dX4_append_9 (by decide) rfl ?_ ?_
  · exact fr_vret hg dX4_append_32 (fun h => h)
  · refine fr_aload_n hg 0 rfl dX4_append_12 rfl ?_
    refine fr_getr hg (q := (2 + t)) (q' := (4 + t)) fo_X4_13 (sx_2 ht) rfl dX4_append_13 rfl ?_
    refine fr_aload_n hg 0 rfl dX4_append_16 rfl ?_
    refine fr_geti hg (q := (2 + t)) fo_X4_7 (sx_2 ht) rfl dX4_append_17 rfl ?_
    refine fr_iload_n hg 1 rfl dX4_append_20 rfl ?_
    refine fr_iastore hg (q := (4 + t)) (sx_4 ht) dX4_append_21 rfl (fun σ1 => ?_)
    refine fr_aload_n hg 0 rfl dX4_append_22 rfl ?_
    refine fr_dup hg rfl dX4_append_23 rfl ?_
    refine fr_geti hg (q := (2 + t)) fo_X4_7 (sx_2 ht) rfl dX4_append_24 rfl ?_
    refine fr_iconst hg (v := 1) (by decide) dX4_append_27 rfl ?_
    refine fr_iadd hg dX4_append_28 rfl ?_
    refine fr_puti hg (q := (2 + t)) fp_X4_7 (sx_2 ht) rfl rfl rfl dX4_append_29 rfl ?_
    exact fr_vret hg dX4_append_32 (fun h => h)
noncomputable def zJ7_fill_53178_L5 (q : Nat) (n : Nat) (k1 : Int32) (k3 : Int32) (v2 : Int32) (σ : fr_St) : Option ((Int32 × fr_St) ⊕ (fr_St)) :=
  if k3 ≤ v2 then some (.inr σ) else (fr_as n σ q v2 k1).bind (fun σ1 => some (.inl (v2 + 1, σ1)))
noncomputable def zJ7_fill_53178 (σ : fr_St) (q n : Nat) (a2 : Int32) : Option (fr_St) :=
  (fr_loop (fun (b1 : Int32 × fr_St) => zJ7_fill_53178_L5 q n a2 (Int32.ofNat n) b1.1 b1.2) fr_fu (0, σ)).bind (fun (c2 : fr_St) => some c2)
set_option maxRecDepth 100000 in
set_option maxHeartbeats 4000000 in
theorem mJ7_fill_53178 {S : List fr_Sh} (q n : Nat) (hq : S[q]? = some (0, n, [])) (a2 : Int32) : fr_MV2 yJ7_fill_53178 cJ7_fill_53178 4 0 0 S (fun w => [.ref (fr_ad w q), .int a2]) (fun σ => zJ7_fill_53178 σ q n a2) := by
  refine fr_mkV2 (by decide) (fun w => Nat.le_of_ble_eq_true rfl) (fun g w σ hg => ?_)
  show fr_V g w 4 (zJ7_fill_53178 σ q n a2) _ 0 [(0, .ref (fr_ad w q)), (1, .int a2)] [] σ
  unfold zJ7_fill_53178
  refine fr_iconst hg (v := 0) (by decide) dJ7_fill_53178_0 rfl ?_
  refine fr_istore_n hg (ls' := [(0, .ref (fr_ad w q)), (1, .int a2), (2, .int 0)]) dJ7_fill_53178_1 rfl (by decide) rfl rfl ?_
  refine fr_aload_n hg 0 rfl dJ7_fill_53178_2 rfl ?_
  refine fr_alen hg (q := q) (v := (Int32.ofNat n)) hq rfl dJ7_fill_53178_3 rfl ?_
  refine fr_istore_n hg (ls' := [(0, .ref (fr_ad w q)), (1, .int a2), (2, .int 0), (3, .int (Int32.ofNat n))]) dJ7_fill_53178_4 rfl (by decide) rfl rfl ?_
  refine fr_lp (fun (b1 : Int32 × fr_St) => [(0, .ref (fr_ad w q)), (1, .int a2), (2, .int b1.1), (3, .int (Int32.ofNat n))]) (fun b1 => b1.2) 20 (fun (c2 : fr_St) => []) (fun c2 => c2) [0, 1, 2, 3] rfl rfl (fun b1 => ?_) (fun c2 => ?_)
  · show fr_V g w _ (zJ7_fill_53178_L5 q n a2 (Int32.ofNat n) b1.1 b1.2) _ _ _ _ _
    unfold zJ7_fill_53178_L5
    refine fr_iload_n hg 2 rfl dJ7_fill_53178_5 rfl ?_
    refine fr_iload_n hg 3 rfl dJ7_fill_53178_6 rfl ?_
    refine fr_icmp_ge hg (m := 20) dJ7_fill_53178_7 (by decide) rfl ?_ ?_
    · exact fr_leaf [] rfl (fun h => h)
    · refine fr_aload_n hg 0 rfl dJ7_fill_53178_10 rfl ?_
      refine fr_iload_n hg 2 rfl dJ7_fill_53178_11 rfl ?_
      refine fr_iload_n hg 1 rfl dJ7_fill_53178_12 rfl ?_
      refine fr_iastore hg (q := q) hq dJ7_fill_53178_13 rfl (fun σ3 => ?_)
      refine fr_iinc hg 2 (v := b1.1 + 1) (ls' := [(0, .ref (fr_ad w q)), (1, .int a2), (2, .int (b1.1 + 1)), (3, .int (Int32.ofNat n))]) dJ7_fill_53178_14 rfl rfl (by decide) rfl rfl ?_
      refine fr_goto hg (n := 5) dJ7_fill_53178_17 (by decide) ?_
      exact fr_leaf [0, 1, 2, 3] rfl (fun h => h)
  exact fr_vret hg dJ7_fill_53178_20 (fun h => h)
noncomputable def zX2_empty (σ : fr_St)  : Option (fr_St) :=
  (zJ7_fill_53178 σ 6 32 (-1)).bind (fun σ1 => some (fr_put (fr_put (fr_put σ1 1 3 0) 1 4 0) 1 5 0))
set_option maxRecDepth 100000 in
set_option maxHeartbeats 4000000 in
theorem mX2_empty  : fr_MV2 yX2_empty cX2_empty 1 1 23 fr_shX (fun w => [.ref (fr_ad w 1)]) (fun σ => zX2_empty σ) := by
  refine fr_mkV2 (by decide) (fun w => Nat.le_of_ble_eq_true rfl) (fun g w σ hg => ?_)
  show fr_V g w 1 (zX2_empty σ) _ 0 [(0, .ref (fr_ad w 1))] [] σ
  unfold zX2_empty
  refine fr_aload_n hg 0 rfl dX2_empty_0 rfl ?_
  refine fr_getr hg (q := 1) (q' := 6) fo_X2_20 rfl rfl dX2_empty_1 rfl ?_
  refine fr_iconst hg (v := (-1)) (by decide) dX2_empty_4 rfl ?_
  refine fr_cv2 hg (mJ7_fill_53178 (S := fr_shX) 6 32 rfl (-1)) (fr_crS hg mo_X2_37 rfl (by decide) (by decide) (Nat.le_of_ble_eq_true rfl) dX2_empty_5 rfl) rfl (fun σ1 => ?_)
  refine fr_aload_n hg 0 rfl dX2_empty_8 rfl ?_
  refine fr_iconst hg (v := 0) (by decide) dX2_empty_9 rfl ?_
  refine fr_puti hg (q := 1) fp_X2_28 rfl rfl rfl rfl dX2_empty_10 rfl ?_
  refine fr_aload_n hg 0 rfl dX2_empty_13 rfl ?_
  refine fr_iconst hg (v := 0) (by decide) dX2_empty_14 rfl ?_
  refine fr_puti hg (q := 1) fp_X2_31 rfl rfl rfl rfl dX2_empty_15 rfl ?_
  refine fr_aload_n hg 0 rfl dX2_empty_18 rfl ?_
  refine fr_iconst hg (v := 0) (by decide) dX2_empty_19 rfl ?_
  refine fr_puti hg (q := 1) fp_X2_34 rfl rfl rfl rfl dX2_empty_20 rfl ?_
  exact fr_vret hg dX2_empty_23 (fun h => h)
def zX2_mayEnd (a1 : Int32) (a2 : Int32) (a3 : Int32) : Int32 :=
  if a1 = 0 then if a2 ≤ 0 then 0 else 1 else if 4 ≤ a1 then 0 else if a2 = a3 then 1 else 0
theorem zbX2_mayEnd (a1 : Int32) (a2 : Int32) (a3 : Int32) : zX2_mayEnd a1 a2 a3 = 0 ∨ zX2_mayEnd a1 a2 a3 = 1 := by
  unfold zX2_mayEnd
  first | exact Or.inl rfl | ((repeat' split) <;> first | exact Or.inl rfl | exact Or.inr rfl)
set_option maxRecDepth 100000 in
set_option maxHeartbeats 4000000 in
theorem mX2_mayEnd (a1 : Int32) (a2 : Int32) (a3 : Int32) : fr_MI0 yX2_mayEnd cX2_mayEnd 3 .boolean 0 0 fr_shX (fun w => [.int a1, .int a2, .int a3]) (fun σ => zX2_mayEnd a1 a2 a3) := by
  refine fr_mkI0 (by decide) (fun w => Nat.le_of_ble_eq_true rfl) (fun g w σ hg => ?_)
  show fr_V g w 3 (some (zX2_mayEnd a1 a2 a3)) _ 0 [(0, .int a1), (1, .int a2), (2, .int a3)] [] σ
  unfold zX2_mayEnd
  refine fr_iload_n hg 0 rfl dX2_mayEnd_0 rfl ?_
  refine fr_some_ite ?_
  refine fr_if_ne hg (m := 14) dX2_mayEnd_1 (by decide) rfl ?_ ?_
  · refine fr_iload_n hg 0 rfl dX2_mayEnd_14 rfl ?_
    refine fr_iconst hg (v := 4) (by decide) dX2_mayEnd_15 rfl ?_
    refine fr_some_ite ?_
    refine fr_icmp_ge hg (m := 28) dX2_mayEnd_16 (by decide) rfl ?_ ?_
    · refine fr_iconst hg (v := 0) (by decide) dX2_mayEnd_28 rfl ?_
      exact fr_iret hg (rty := .boolean) rfl dX2_mayEnd_29 (fun h => h)
    · refine fr_iload_n hg 1 rfl dX2_mayEnd_19 rfl ?_
      refine fr_iload_n hg 2 rfl dX2_mayEnd_20 rfl ?_
      refine fr_some_ite ?_
      refine fr_icmp_ne hg (m := 28) dX2_mayEnd_21 (by decide) rfl ?_ ?_
      · refine fr_iconst hg (v := 0) (by decide) dX2_mayEnd_28 rfl ?_
        exact fr_iret hg (rty := .boolean) rfl dX2_mayEnd_29 (fun h => h)
      · refine fr_iconst hg (v := 1) (by decide) dX2_mayEnd_24 rfl ?_
        refine fr_goto hg (n := 29) dX2_mayEnd_25 (by decide) ?_
        exact fr_iret hg (rty := .boolean) rfl dX2_mayEnd_29 (fun h => h)
  · refine fr_iload_n hg 1 rfl dX2_mayEnd_4 rfl ?_
    refine fr_some_ite ?_
    refine fr_if_le hg (m := 12) dX2_mayEnd_5 (by decide) rfl ?_ ?_
    · refine fr_iconst hg (v := 0) (by decide) dX2_mayEnd_12 rfl ?_
      exact fr_iret hg (rty := .boolean) rfl dX2_mayEnd_13 (fun h => h)
    · refine fr_iconst hg (v := 1) (by decide) dX2_mayEnd_8 rfl ?_
      refine fr_goto hg (n := 13) dX2_mayEnd_9 (by decide) ?_
      exact fr_iret hg (rty := .boolean) rfl dX2_mayEnd_13 (fun h => h)
def zX9_isCell (a1 : Int32) : Int32 :=
  zX9_within a1 0 31
theorem zbX9_isCell (a1 : Int32) : zX9_isCell a1 = 0 ∨ zX9_isCell a1 = 1 := by
  unfold zX9_isCell
  first | exact zbX9_within a1 0 31 | ((repeat' split) <;> first | exact Or.inl rfl | exact Or.inr rfl)
set_option maxRecDepth 100000 in
set_option maxHeartbeats 4000000 in
theorem mX9_isCell (a1 : Int32) : fr_MI0 yX9_isCell cX9_isCell 1 .boolean 1 22 fr_shX (fun w => [.int a1]) (fun σ => zX9_isCell a1) := by
  refine fr_mkI0 (by decide) (fun w => Nat.le_of_ble_eq_true rfl) (fun g w σ hg => ?_)
  show fr_V g w 1 (some (zX9_isCell a1)) _ 0 [(0, .int a1)] [] σ
  unfold zX9_isCell
  refine fr_iload_n hg 0 rfl dX9_isCell_0 rfl ?_
  refine fr_iconst hg (v := 0) (by decide) dX9_isCell_1 rfl ?_
  refine fr_bipush hg (v := 31) (by decide) dX9_isCell_2 rfl ?_
  refine fr_ci0 hg (mX9_within a1 0 31) (fr_crS hg mo_X9_77 rfl (by decide) (by decide) (Nat.le_of_ble_eq_true rfl) dX9_isCell_4 rfl) rfl ?_
  exact fr_iret hg (rty := .boolean) (fr_nb (zbX9_within a1 0 31)) dX9_isCell_7 (fun h => h)
noncomputable def zX2_addCell (σ : fr_St) (a1 : Int32) (a2 : Int32) : Option (fr_St) :=
  if zX9_isCell a1 = 0 then some σ else (fr_as 32 σ 6 a1 a2).bind (fun σ1 => if a2 = 0 then some (fr_put (fr_put (fr_put σ1 1 3 ((σ1 1 3) + 1)) 1 4 (((fr_put σ1 1 3 ((σ1 1 3) + 1)) 1 4) + a2)) 1 5 (((fr_put (fr_put σ1 1 3 ((σ1 1 3) + 1)) 1 4 (((fr_put σ1 1 3 ((σ1 1 3) + 1)) 1 4) + a2)) 1 5) + 1)) else some (fr_put (fr_put (fr_put σ1 1 3 ((σ1 1 3) + 1)) 1 4 (((fr_put σ1 1 3 ((σ1 1 3) + 1)) 1 4) + a2)) 1 5 (((fr_put (fr_put σ1 1 3 ((σ1 1 3) + 1)) 1 4 (((fr_put σ1 1 3 ((σ1 1 3) + 1)) 1 4) + a2)) 1 5) + 0)))
set_option maxRecDepth 100000 in
set_option maxHeartbeats 4000000 in
theorem mX2_addCell (a1 : Int32) (a2 : Int32) : fr_MV2 yX2_addCell cX2_addCell 3 2 42 fr_shX (fun w => [.ref (fr_ad w 1), .int a1, .int a2]) (fun σ => zX2_addCell σ a1 a2) := by
  refine fr_mkV2 (by decide) (fun w => Nat.le_of_ble_eq_true rfl) (fun g w σ hg => ?_)
  show fr_V g w 3 (zX2_addCell σ a1 a2) _ 0 [(0, .ref (fr_ad w 1)), (1, .int a1), (2, .int a2)] [] σ
  unfold zX2_addCell
  refine fr_iload_n hg 1 rfl dX2_addCell_0 rfl ?_
  refine fr_ci0 hg (mX9_isCell a1) (fr_crN hg mo_X2_67 rfl (by decide) (by decide) (Nat.le_of_ble_eq_true rfl) dX2_addCell_1 rfl) rfl ?_
  refine fr_if_ne hg (m := 8) dX2_addCell_4 (by decide) rfl ?_ ?_
  · refine fr_aload_n hg 0 rfl dX2_addCell_8 rfl ?_
    refine fr_getr hg (q := 1) (q' := 6) fo_X2_20 rfl rfl dX2_addCell_9 rfl ?_
    refine fr_iload_n hg 1 rfl dX2_addCell_12 rfl ?_
    refine fr_iload_n hg 2 rfl dX2_addCell_13 rfl ?_
    refine fr_iastore hg (q := 6) rfl dX2_addCell_14 rfl (fun σ1 => ?_)
    refine fr_aload_n hg 0 rfl dX2_addCell_15 rfl ?_
    refine fr_dup hg rfl dX2_addCell_16 rfl ?_
    refine fr_geti hg (q := 1) fo_X2_28 rfl rfl dX2_addCell_17 rfl ?_
    refine fr_iconst hg (v := 1) (by decide) dX2_addCell_20 rfl ?_
    refine fr_iadd hg dX2_addCell_21 rfl ?_
    refine fr_puti hg (q := 1) fp_X2_28 rfl rfl rfl rfl dX2_addCell_22 rfl ?_
    refine fr_aload_n hg 0 rfl dX2_addCell_25 rfl ?_
    refine fr_dup hg rfl dX2_addCell_26 rfl ?_
    refine fr_geti hg (q := 1) fo_X2_31 rfl rfl dX2_addCell_27 rfl ?_
    refine fr_iload_n hg 2 rfl dX2_addCell_30 rfl ?_
    refine fr_iadd hg dX2_addCell_31 rfl ?_
    refine fr_puti hg (q := 1) fp_X2_31 rfl rfl rfl rfl dX2_addCell_32 rfl ?_
    refine fr_aload_n hg 0 rfl dX2_addCell_35 rfl ?_
    refine fr_dup hg rfl dX2_addCell_36 rfl ?_
    refine fr_geti hg (q := 1) fo_X2_34 rfl rfl dX2_addCell_37 rfl ?_
    refine fr_iload_n hg 2 rfl dX2_addCell_40 rfl ?_
    refine fr_if_ne hg (m := 48) dX2_addCell_41 (by decide) rfl ?_ ?_
    · refine fr_iconst hg (v := 0) (by decide) dX2_addCell_48 rfl ?_
      refine fr_iadd hg dX2_addCell_49 rfl ?_
      refine fr_puti hg (q := 1) fp_X2_34 rfl rfl rfl rfl dX2_addCell_50 rfl ?_
      exact fr_vret hg dX2_addCell_53 (fun h => h)
    · refine fr_iconst hg (v := 1) (by decide) dX2_addCell_44 rfl ?_
      refine fr_goto hg (n := 49) dX2_addCell_45 (by decide) ?_
      refine fr_iadd hg dX2_addCell_49 rfl ?_
      refine fr_puti hg (q := 1) fp_X2_34 rfl rfl rfl rfl dX2_addCell_50 rfl ?_
      exact fr_vret hg dX2_addCell_53 (fun h => h)
  · exact fr_vret hg dX2_addCell_7 (fun h => h)
noncomputable def zX2_readRows_L10 (v1 : Int32) (v2 : Int32) (v3 : Int32) (v4 : Int32) (σ : fr_St) : Option ((Int32 × Int32 × Int32 × Int32 × fr_St) ⊕ ((Int32 × fr_St) ⊕ (Int32 × Int32 × Int32 × fr_St))) :=
  if σ 2 1 ≤ v4 then some (.inr (.inr (v1, v2, v3, σ))) else (fr_al 35 σ 4 v4).bind (fun x1 => if x1 = 59 then if zX2_mayEnd v1 v2 v3 = 0 then some (.inr (.inl (v4, σ))) else if v1 = 0 then some (.inl (v1 + 1, 0, v2, v4 + 1, σ)) else some (.inl (v1 + 1, 0, v3, v4 + 1, σ)) else if zX9_within x1 48 57 = 0 then some (.inr (.inl (v4, σ))) else if 4 ≤ v1 then some (.inr (.inl (v4, σ))) else if v2 < v3 then (zX2_addCell σ ((8 * v1) + v2) (x1 - 48)).bind (fun σ2 => some (.inl (v1, v2 + 1, v3, v4 + 1, σ2))) else some (.inr (.inl (v4, σ))))
noncomputable def zX2_readRows (σ : fr_St)  : Option (Int32 × fr_St) :=
  (fr_loop (fun (b1 : Int32 × Int32 × Int32 × Int32 × fr_St) => zX2_readRows_L10 b1.1 b1.2.1 b1.2.2.1 b1.2.2.2.1 b1.2.2.2.2) fr_fu (0, 0, 8, 0, σ)).bind (fr_ei (fun r => some r) (fun (c2 : Int32 × Int32 × Int32 × fr_St) => if c2.2.2.2 2 1 = 0 then some ((-1), c2.2.2.2) else if zX2_mayEnd c2.1 c2.2.1 c2.2.2.1 = 0 then some (c2.2.2.2 2 1, c2.2.2.2) else some ((-1), c2.2.2.2)))
set_option maxRecDepth 100000 in
set_option maxHeartbeats 4000000 in
theorem mX2_readRows  : fr_MI2 yX2_readRows cX2_readRows 6 .int 3 64 fr_shX (fun w => [.ref (fr_ad w 1)]) (fun σ => zX2_readRows σ) := by
  refine fr_mkI2 (by decide) (fun w => Nat.le_of_ble_eq_true rfl) (fun g w σ hg => ?_)
  show fr_V g w 6 (zX2_readRows σ) _ 0 [(0, .ref (fr_ad w 1))] [] σ
  unfold zX2_readRows
  refine fr_iconst hg (v := 0) (by decide) dX2_readRows_0 rfl ?_
  refine fr_istore_n hg (ls' := [(0, .ref (fr_ad w 1)), (1, .int 0)]) dX2_readRows_1 rfl (by decide) rfl rfl ?_
  refine fr_iconst hg (v := 0) (by decide) dX2_readRows_2 rfl ?_
  refine fr_istore_n hg (ls' := [(0, .ref (fr_ad w 1)), (1, .int 0), (2, .int 0)]) dX2_readRows_3 rfl (by decide) rfl rfl ?_
  refine fr_bipush hg (v := 8) (by decide) dX2_readRows_4 rfl ?_
  refine fr_istore_n hg (ls' := [(0, .ref (fr_ad w 1)), (1, .int 0), (2, .int 0), (3, .int 8)]) dX2_readRows_6 rfl (by decide) rfl rfl ?_
  refine fr_iconst hg (v := 0) (by decide) dX2_readRows_7 rfl ?_
  refine fr_istore hg (ls' := [(0, .ref (fr_ad w 1)), (1, .int 0), (2, .int 0), (3, .int 8), (4, .int 0)]) dX2_readRows_8 (by decide) rfl rfl ?_
  refine fr_lpr (fun (b1 : Int32 × Int32 × Int32 × Int32 × fr_St) => [(0, .ref (fr_ad w 1)), (1, .int b1.1), (2, .int b1.2.1), (3, .int b1.2.2.1), (4, .int b1.2.2.2.1)]) (fun b1 => b1.2.2.2.2) 120 (fun (c2 : Int32 × Int32 × Int32 × fr_St) => [(0, .ref (fr_ad w 1)), (1, .int c2.1), (2, .int c2.2.1), (3, .int c2.2.2.1)]) (fun c2 => c2.2.2.2) [0, 1, 2, 3, 4] rfl rfl (fun r => fr_RI g w .int r.1 r.2) (fun r t h1 h2 => ?_) (fun b1 => ?_) (fun c2 => ?_)
  · cases h1; exact h2
  · show fr_V g w _ (zX2_readRows_L10 b1.1 b1.2.1 b1.2.2.1 b1.2.2.2.1 b1.2.2.2.2) _ _ _ _ _
    unfold zX2_readRows_L10
    refine fr_iload hg 4 rfl dX2_readRows_10 rfl ?_
    refine fr_aload_n hg 0 rfl dX2_readRows_12 rfl ?_
    refine fr_getr hg (q := 1) (q' := 2) fo_X2_14 rfl rfl dX2_readRows_13 rfl ?_
    refine fr_geti hg (q := 2) fo_X2_50 rfl rfl dX2_readRows_16 rfl ?_
    refine fr_icmp_ge hg (m := 120) dX2_readRows_19 (by decide) rfl ?_ ?_
    · exact fr_leaf [0, 1, 2, 3] rfl (fun h => h)
    · refine fr_aload_n hg 0 rfl dX2_readRows_22 rfl ?_
      refine fr_getr hg (q := 1) (q' := 2) fo_X2_14 rfl rfl dX2_readRows_23 rfl ?_
      refine fr_getr hg (q := 2) (q' := 4) fo_X2_53 rfl rfl dX2_readRows_26 rfl ?_
      refine fr_iload hg 4 rfl dX2_readRows_29 rfl ?_
      refine fr_iaload hg (q := 4) rfl dX2_readRows_31 rfl (fun x3 => ?_)
      refine fr_istore hg (ls' := [(0, .ref (fr_ad w 1)), (1, .int b1.1), (2, .int b1.2.1), (3, .int b1.2.2.1), (4, .int b1.2.2.2.1), (5, .int x3)]) dX2_readRows_32 (by decide) rfl rfl ?_
      refine fr_iload hg 5 rfl dX2_readRows_34 rfl ?_
      refine fr_bipush hg (v := 59) (by decide) dX2_readRows_36 rfl ?_
      refine fr_icmp_ne hg (m := 71) dX2_readRows_38 (by decide) rfl ?_ ?_
      · refine fr_iload hg 5 rfl dX2_readRows_71 rfl ?_
        refine fr_bipush hg (v := 48) (by decide) dX2_readRows_73 rfl ?_
        refine fr_bipush hg (v := 57) (by decide) dX2_readRows_75 rfl ?_
        refine fr_ci0 hg (mX9_within x3 48 57) (fr_crN hg mo_X2_60 rfl (by decide) (by decide) (Nat.le_of_ble_eq_true rfl) dX2_readRows_77 rfl) rfl ?_
        refine fr_if_eq hg (m := 93) dX2_readRows_80 (by decide) rfl ?_ ?_
        · refine fr_iload hg 4 rfl dX2_readRows_93 rfl ?_
          exact fr_iret hg (rty := .int) rfl dX2_readRows_95 (fun h => h)
        · refine fr_iload_n hg 1 rfl dX2_readRows_83 rfl ?_
          refine fr_iconst hg (v := 4) (by decide) dX2_readRows_84 rfl ?_
          refine fr_icmp_ge hg (m := 93) dX2_readRows_85 (by decide) rfl ?_ ?_
          · refine fr_iload hg 4 rfl dX2_readRows_93 rfl ?_
            exact fr_iret hg (rty := .int) rfl dX2_readRows_95 (fun h => h)
          · refine fr_iload_n hg 2 rfl dX2_readRows_88 rfl ?_
            refine fr_iload_n hg 3 rfl dX2_readRows_89 rfl ?_
            refine fr_icmp_lt hg (m := 96) dX2_readRows_90 (by decide) rfl ?_ ?_
            · refine fr_aload_n hg 0 rfl dX2_readRows_96 rfl ?_
              refine fr_bipush hg (v := 8) (by decide) dX2_readRows_97 rfl ?_
              refine fr_iload_n hg 1 rfl dX2_readRows_99 rfl ?_
              refine fr_imul hg dX2_readRows_100 rfl ?_
              refine fr_iload_n hg 2 rfl dX2_readRows_101 rfl ?_
              refine fr_iadd hg dX2_readRows_102 rfl ?_
              refine fr_iload hg 5 rfl dX2_readRows_103 rfl ?_
              refine fr_bipush hg (v := 48) (by decide) dX2_readRows_105 rfl ?_
              refine fr_isub hg dX2_readRows_107 rfl ?_
              refine fr_cv2 hg (mX2_addCell ((8 * b1.1) + b1.2.1) (x3 - 48)) (fr_crV hg (q := 1) mo_X2_63 rfl ⟨_, _, rfl⟩ rfl (by decide) (by decide) (Nat.le_of_ble_eq_true rfl) dX2_readRows_108 rfl) rfl (fun σ4 => ?_)
              refine fr_iinc hg 2 (v := b1.2.1 + 1) (ls' := [(0, .ref (fr_ad w 1)), (1, .int b1.1), (2, .int (b1.2.1 + 1)), (3, .int b1.2.2.1), (4, .int b1.2.2.2.1), (5, .int x3)]) dX2_readRows_111 rfl rfl (by decide) rfl rfl ?_
              refine fr_iinc hg 4 (v := b1.2.2.2.1 + 1) (ls' := [(0, .ref (fr_ad w 1)), (1, .int b1.1), (2, .int (b1.2.1 + 1)), (3, .int b1.2.2.1), (4, .int (b1.2.2.2.1 + 1)), (5, .int x3)]) dX2_readRows_114 rfl rfl (by decide) rfl rfl ?_
              refine fr_goto hg (n := 10) dX2_readRows_117 (by decide) ?_
              exact fr_leaf [0, 1, 2, 3, 4] rfl (fun h => h)
            · refine fr_iload hg 4 rfl dX2_readRows_93 rfl ?_
              exact fr_iret hg (rty := .int) rfl dX2_readRows_95 (fun h => h)
      · refine fr_iload_n hg 1 rfl dX2_readRows_41 rfl ?_
        refine fr_iload_n hg 2 rfl dX2_readRows_42 rfl ?_
        refine fr_iload_n hg 3 rfl dX2_readRows_43 rfl ?_
        refine fr_ci0 hg (mX2_mayEnd b1.1 b1.2.1 b1.2.2.1) (fr_crS hg mo_X2_56 rfl (by decide) (by decide) (Nat.le_of_ble_eq_true rfl) dX2_readRows_44 rfl) rfl ?_
        refine fr_if_ne hg (m := 53) dX2_readRows_47 (by decide) rfl ?_ ?_
        · refine fr_iload_n hg 1 rfl dX2_readRows_53 rfl ?_
          refine fr_if_ne hg (m := 61) dX2_readRows_54 (by decide) rfl ?_ ?_
          · refine fr_iload_n hg 3 rfl dX2_readRows_61 rfl ?_
            refine fr_istore_n hg (ls' := [(0, .ref (fr_ad w 1)), (1, .int b1.1), (2, .int b1.2.1), (3, .int b1.2.2.1), (4, .int b1.2.2.2.1), (5, .int x3)]) dX2_readRows_62 rfl (by decide) rfl rfl ?_
            refine fr_iinc hg 1 (v := b1.1 + 1) (ls' := [(0, .ref (fr_ad w 1)), (1, .int (b1.1 + 1)), (2, .int b1.2.1), (3, .int b1.2.2.1), (4, .int b1.2.2.2.1), (5, .int x3)]) dX2_readRows_63 rfl rfl (by decide) rfl rfl ?_
            refine fr_iconst hg (v := 0) (by decide) dX2_readRows_66 rfl ?_
            refine fr_istore_n hg (ls' := [(0, .ref (fr_ad w 1)), (1, .int (b1.1 + 1)), (2, .int 0), (3, .int b1.2.2.1), (4, .int b1.2.2.2.1), (5, .int x3)]) dX2_readRows_67 rfl (by decide) rfl rfl ?_
            refine fr_goto hg (n := 114) dX2_readRows_68 (by decide) ?_
            refine fr_iinc hg 4 (v := b1.2.2.2.1 + 1) (ls' := [(0, .ref (fr_ad w 1)), (1, .int (b1.1 + 1)), (2, .int 0), (3, .int b1.2.2.1), (4, .int (b1.2.2.2.1 + 1)), (5, .int x3)]) dX2_readRows_114 rfl rfl (by decide) rfl rfl ?_
            refine fr_goto hg (n := 10) dX2_readRows_117 (by decide) ?_
            exact fr_leaf [0, 1, 2, 3, 4] rfl (fun h => h)
          · refine fr_iload_n hg 2 rfl dX2_readRows_57 rfl ?_
            refine fr_goto hg (n := 62) dX2_readRows_58 (by decide) ?_
            refine fr_istore_n hg (ls' := [(0, .ref (fr_ad w 1)), (1, .int b1.1), (2, .int b1.2.1), (3, .int b1.2.1), (4, .int b1.2.2.2.1), (5, .int x3)]) dX2_readRows_62 rfl (by decide) rfl rfl ?_
            refine fr_iinc hg 1 (v := b1.1 + 1) (ls' := [(0, .ref (fr_ad w 1)), (1, .int (b1.1 + 1)), (2, .int b1.2.1), (3, .int b1.2.1), (4, .int b1.2.2.2.1), (5, .int x3)]) dX2_readRows_63 rfl rfl (by decide) rfl rfl ?_
            refine fr_iconst hg (v := 0) (by decide) dX2_readRows_66 rfl ?_
            refine fr_istore_n hg (ls' := [(0, .ref (fr_ad w 1)), (1, .int (b1.1 + 1)), (2, .int 0), (3, .int b1.2.1), (4, .int b1.2.2.2.1), (5, .int x3)]) dX2_readRows_67 rfl (by decide) rfl rfl ?_
            refine fr_goto hg (n := 114) dX2_readRows_68 (by decide) ?_
            refine fr_iinc hg 4 (v := b1.2.2.2.1 + 1) (ls' := [(0, .ref (fr_ad w 1)), (1, .int (b1.1 + 1)), (2, .int 0), (3, .int b1.2.1), (4, .int (b1.2.2.2.1 + 1)), (5, .int x3)]) dX2_readRows_114 rfl rfl (by decide) rfl rfl ?_
            refine fr_goto hg (n := 10) dX2_readRows_117 (by decide) ?_
            exact fr_leaf [0, 1, 2, 3, 4] rfl (fun h => h)
        · refine fr_iload hg 4 rfl dX2_readRows_50 rfl ?_
          exact fr_iret hg (rty := .int) rfl dX2_readRows_52 (fun h => h)
  refine fr_aload_n hg 0 rfl dX2_readRows_120 rfl ?_
  refine fr_getr hg (q := 1) (q' := 2) fo_X2_14 rfl rfl dX2_readRows_121 rfl ?_
  refine fr_geti hg (q := 2) fo_X2_50 rfl rfl dX2_readRows_124 rfl ?_
  refine fr_if_eq hg (m := 139) dX2_readRows_127 (by decide) rfl ?_ ?_
  · refine fr_iconst hg (v := (-1)) (by decide) dX2_readRows_139 rfl ?_
    refine fr_goto hg (n := 150) dX2_readRows_140 (by decide) ?_
    exact fr_iret hg (rty := .int) rfl dX2_readRows_150 (fun h => h)
  · refine fr_iload_n hg 1 rfl dX2_readRows_130 rfl ?_
    refine fr_iload_n hg 2 rfl dX2_readRows_131 rfl ?_
    refine fr_iload_n hg 3 rfl dX2_readRows_132 rfl ?_
    refine fr_ci0 hg (mX2_mayEnd c2.1 c2.2.1 c2.2.2.1) (fr_crS hg mo_X2_56 rfl (by decide) (by decide) (Nat.le_of_ble_eq_true rfl) dX2_readRows_133 rfl) rfl ?_
    refine fr_if_eq hg (m := 143) dX2_readRows_136 (by decide) rfl ?_ ?_
    · refine fr_aload_n hg 0 rfl dX2_readRows_143 rfl ?_
      refine fr_getr hg (q := 1) (q' := 2) fo_X2_14 rfl rfl dX2_readRows_144 rfl ?_
      refine fr_geti hg (q := 2) fo_X2_50 rfl rfl dX2_readRows_147 rfl ?_
      exact fr_iret hg (rty := .int) rfl dX2_readRows_150 (fun h => h)
    · refine fr_iconst hg (v := (-1)) (by decide) dX2_readRows_139 rfl ?_
      refine fr_goto hg (n := 150) dX2_readRows_140 (by decide) ?_
      exact fr_iret hg (rty := .int) rfl dX2_readRows_150 (fun h => h)
noncomputable def zX2_reread (σ : fr_St)  : Option (fr_St) :=
  (zX2_empty σ).bind (fun σ1 => (zX2_readRows σ1).bind (fun p3 => if (fr_put p3.2 1 2 p3.1) 1 2 = (-1) then some (fr_put p3.2 1 2 p3.1) else (zX2_empty (fr_put p3.2 1 2 p3.1)).bind (fun σ4 => some σ4)))
set_option maxRecDepth 100000 in
set_option maxHeartbeats 4000000 in
theorem mX2_reread  : fr_MV2 yX2_reread cX2_reread 1 4 89 fr_shX (fun w => [.ref (fr_ad w 1)]) (fun σ => zX2_reread σ) := by
  refine fr_mkV2 (by decide) (fun w => Nat.le_of_ble_eq_true rfl) (fun g w σ hg => ?_)
  show fr_V g w 1 (zX2_reread σ) _ 0 [(0, .ref (fr_ad w 1))] [] σ
  unfold zX2_reread
  refine fr_aload_n hg 0 rfl dX2_reread_0 rfl ?_
  refine fr_cv2 hg mX2_empty (fr_crV hg (q := 1) mo_X2_43 rfl ⟨_, _, rfl⟩ rfl (by decide) (by decide) (Nat.le_of_ble_eq_true rfl) dX2_reread_1 rfl) rfl (fun σ1 => ?_)
  refine fr_aload_n hg 0 rfl dX2_reread_4 rfl ?_
  refine fr_aload_n hg 0 rfl dX2_reread_5 rfl ?_
  refine fr_ci2 hg mX2_readRows (fr_crV hg (q := 1) mo_X2_46 rfl ⟨_, _, rfl⟩ rfl (by decide) (by decide) (Nat.le_of_ble_eq_true rfl) dX2_reread_6 rfl) rfl (fun p3 => ?_)
  refine fr_puti hg (q := 1) fp_X2_24 rfl rfl rfl rfl dX2_reread_9 rfl ?_
  refine fr_aload_n hg 0 rfl dX2_reread_12 rfl ?_
  refine fr_geti hg (q := 1) fo_X2_24 rfl rfl dX2_reread_13 rfl ?_
  refine fr_iconst hg (v := (-1)) (by decide) dX2_reread_16 rfl ?_
  refine fr_icmp_eq hg (m := 24) dX2_reread_17 (by decide) rfl ?_ ?_
  · exact fr_vret hg dX2_reread_24 (fun h => h)
  · refine fr_aload_n hg 0 rfl dX2_reread_20 rfl ?_
    refine fr_cv2 hg mX2_empty (fr_crV hg (q := 1) mo_X2_43 rfl ⟨_, _, rfl⟩ rfl (by decide) (by decide) (Nat.le_of_ble_eq_true rfl) dX2_reread_21 rfl) rfl (fun σ4 => ?_)
    exact fr_vret hg dX2_reread_24 (fun h => h)
def zX3_kindOf (a1 : Int32) : Int32 :=
  if a1 = 46 then 0 else if a1 = 108 then 1 else if a1 = 114 then 2 else if a1 = 115 then 3 else if a1 = 120 then 4 else (-1)
set_option maxRecDepth 100000 in
set_option maxHeartbeats 4000000 in
theorem mX3_kindOf (a1 : Int32) : fr_MI0 yX3_kindOf cX3_kindOf 1 .int 0 0 fr_shX (fun w => [.int a1]) (fun σ => zX3_kindOf a1) := by
  refine fr_mkI0 (by decide) (fun w => Nat.le_of_ble_eq_true rfl) (fun g w σ hg => ?_)
  show fr_V g w 1 (some (zX3_kindOf a1)) _ 0 [(0, .int a1)] [] σ
  unfold zX3_kindOf
  refine fr_iload_n hg 0 rfl dX3_kindOf_0 rfl ?_
  refine fr_some_ite ?_
  refine fr_case (fun h => ?_) (fun h46 => ?_)
  · refine fr_lks hg (off := 51) (m := 52) dX3_kindOf_1 rfl (by rw [h]; first | done | rfl) (by decide) ?_
    refine fr_iconst hg (v := 0) (by decide) dX3_kindOf_52 rfl ?_
    exact fr_iret hg (rty := .int) rfl dX3_kindOf_53 (fun h => h)
  refine fr_some_ite ?_
  refine fr_case (fun h => ?_) (fun h108 => ?_)
  · refine fr_lks hg (off := 53) (m := 54) dX3_kindOf_1 rfl (by rw [h]; first | done | rfl) (by decide) ?_
    refine fr_iconst hg (v := 1) (by decide) dX3_kindOf_54 rfl ?_
    exact fr_iret hg (rty := .int) rfl dX3_kindOf_55 (fun h => h)
  refine fr_some_ite ?_
  refine fr_case (fun h => ?_) (fun h114 => ?_)
  · refine fr_lks hg (off := 55) (m := 56) dX3_kindOf_1 rfl (by rw [h]; first | done | rfl) (by decide) ?_
    refine fr_iconst hg (v := 2) (by decide) dX3_kindOf_56 rfl ?_
    exact fr_iret hg (rty := .int) rfl dX3_kindOf_57 (fun h => h)
  refine fr_some_ite ?_
  refine fr_case (fun h => ?_) (fun h115 => ?_)
  · refine fr_lks hg (off := 57) (m := 58) dX3_kindOf_1 rfl (by rw [h]; first | done | rfl) (by decide) ?_
    refine fr_iconst hg (v := 3) (by decide) dX3_kindOf_58 rfl ?_
    exact fr_iret hg (rty := .int) rfl dX3_kindOf_59 (fun h => h)
  refine fr_some_ite ?_
  refine fr_case (fun h => ?_) (fun h120 => ?_)
  · refine fr_lks hg (off := 59) (m := 60) dX3_kindOf_1 rfl (by rw [h]; first | done | rfl) (by decide) ?_
    refine fr_iconst hg (v := 4) (by decide) dX3_kindOf_60 rfl ?_
    exact fr_iret hg (rty := .int) rfl dX3_kindOf_61 (fun h => h)
  refine fr_lks hg (off := 61) (m := 62) dX3_kindOf_1 rfl (by show Op.lookupswitch.offset [(46, 51), (108, 53), (114, 55), (115, 57), (120, 59)] 61 _ = _; rw [lv_osw h46 (a := 46) rfl, lv_osw h108 (a := 108) rfl, lv_osw h114 (a := 114) rfl, lv_osw h115 (a := 115) rfl, lv_osw h120 (a := 120) rfl]; first | done | rfl) (by decide) ?_
  refine fr_iconst hg (v := (-1)) (by decide) dX3_kindOf_62 rfl ?_
  exact fr_iret hg (rty := .int) rfl dX3_kindOf_63 (fun h => h)
def zX9_isKind (a1 : Int32) : Int32 :=
  zX9_within a1 0 4
theorem zbX9_isKind (a1 : Int32) : zX9_isKind a1 = 0 ∨ zX9_isKind a1 = 1 := by
  unfold zX9_isKind
  first | exact zbX9_within a1 0 4 | ((repeat' split) <;> first | exact Or.inl rfl | exact Or.inr rfl)
set_option maxRecDepth 100000 in
set_option maxHeartbeats 4000000 in
theorem mX9_isKind (a1 : Int32) : fr_MI0 yX9_isKind cX9_isKind 1 .boolean 1 22 fr_shX (fun w => [.int a1]) (fun σ => zX9_isKind a1) := by
  refine fr_mkI0 (by decide) (fun w => Nat.le_of_ble_eq_true rfl) (fun g w σ hg => ?_)
  show fr_V g w 1 (some (zX9_isKind a1)) _ 0 [(0, .int a1)] [] σ
  unfold zX9_isKind
  refine fr_iload_n hg 0 rfl dX9_isKind_0 rfl ?_
  refine fr_iconst hg (v := 0) (by decide) dX9_isKind_1 rfl ?_
  refine fr_iconst hg (v := 4) (by decide) dX9_isKind_2 rfl ?_
  refine fr_ci0 hg (mX9_within a1 0 4) (fr_crS hg mo_X9_77 rfl (by decide) (by decide) (Nat.le_of_ble_eq_true rfl) dX9_isKind_3 rfl) rfl ?_
  exact fr_iret hg (rty := .boolean) (fr_nb (zbX9_within a1 0 4)) dX9_isKind_6 (fun h => h)
