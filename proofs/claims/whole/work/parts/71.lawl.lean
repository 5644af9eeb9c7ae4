def sm_sim (Rel : fr_St → fr_St → Prop) : Prop := sm_type Rel ∧ sm_wipe Rel ∧ sm_undo Rel ∧ sm_fault Rel ∧ sm_tool Rel ∧ sm_looks Rel ∧ sm_read Rel ∧ sm_stroke Rel ∧ sm_back Rel ∧ sm_judged Rel ∧ sm_thick Rel ∧ sm_state Rel ∧ sm_left Rel ∧ sm_risk Rel ∧ sm_all Rel ∧ sm_first Rel ∧ sm_stop Rel ∧ sm_warm Rel ∧ sm_crack Rel ∧ sm_melts Rel ∧ sm_again Rel ∧ sm_night Rel ∧ sm_tonight Rel ∧ sm_cover Rel ∧ sm_car Rel ∧ sm_gone Rel ∧ sm_lent Rel ∧ sm_faced Rel ∧ sm_bend Rel ∧ sm_sheet Rel ∧ sm_lose Rel ∧ sm_lay Rel ∧ sm_get Rel ∧ sm_copy Rel ∧ sm_write Rel ∧ sm_count Rel ∧ sm_digest Rel
set_option maxRecDepth 100000 in
set_option maxHeartbeats 4000000 in
theorem law_body {g : fr_G} {D : va_G} {cs : Nat → ClassId} {A : Nat → Prop} {adx adm : Nat → Nat} {σx σm : fr_St} {b L j : Nat} {xs : Nat → Int32} {Rel : fr_St → fr_St → Prop} (hgX : ∀ σm, fr_ok g (fr_wX D cs A adx adm σm) fr_shX code 4 RL 9 332) (hgM : ∀ σx, fr_ok g (fr_wM D cs A adx adm σx) fr_shM code 4 RL 9 332) (hX : va_X b L xs g.2.2.2.2.1 g.2.2.2.2.1.heap) (hbl : b < g.2.2.2.2.1.heap.size) (hbA : ¬ A b) (hj : j + 6 ≤ L ∧ L < 2 ^ 31) (hs : sm_sim Rel) (hR : Rel σx σm) (ih : ∀ σx σm, Rel σx σm → fr_K g (fr_wX D cs A adx adm σm) 4 1449 [(0, .ref b), (1, .ref (adx 0)), (2, .ref (adm 0)), (3, .int (nI j))] [] σx) : fr_K g (fr_wX D cs A adx adm σm) 4 27 [(0, .ref b), (1, .ref (adx 0)), (2, .ref (adm 0)), (3, .int (nI j))] [] σx := by
  obtain ⟨s0, s1, s2, s3, s4, s5, s6, s7, s8, s9, s10, s11, s12, s13, s14, s15, s16, s17, s18, s19, s20, s21, s22, s23, s24, s25, s26, s27, s28, s29, s30, s31, s32, s33, s34, s35, s36⟩ := hs
  refine fr_kV (fr_aload_n (hgX σm) 0 rfl dL_law_27 rfl (fr_Vk ?_))
  refine fr_kV (fr_iload_n (hgX σm) 3 rfl dL_law_28 rfl (fr_Vk ?_))
  refine fr_ksld (hgX σm) hX hbl hbA rfl (by omega) dL_law_29 rfl ?_
  refine fr_kV (fr_bipush (hgX σm) (v := 63) (by decide) dL_law_30 rfl (fr_Vk ?_))
  refine fr_kV (fr_iand (hgX σm) dL_law_32 rfl (fr_Vk ?_))
  generalize xs j &&& 63 = z
  by_cases h0 : z = 0
  · exact fr_kV (fr_tbl (hgX σm) (m := 196) h0 dL_law_33 (by decide) (by decide) rfl (by decide) (fr_Vk (lc_type hgX hgM hX hbl hbA hj s0 hR ih)))
  by_cases h1 : z = 1
  · exact fr_kV (fr_tbl (hgX σm) (m := 229) h1 dL_law_33 (by decide) (by decide) rfl (by decide) (fr_Vk (lc_wipe hgX hgM hX hbl hbA hj s1 hR ih)))
  by_cases h2 : z = 2
  · exact fr_kV (fr_tbl (hgX σm) (m := 252) h2 dL_law_33 (by decide) (by decide) rfl (by decide) (fr_Vk (lc_undo hgX hgM hX hbl hbA hj s2 hR ih)))
  by_cases h3 : z = 3
  · exact fr_kV (fr_tbl (hgX σm) (m := 275) h3 dL_law_33 (by decide) (by decide) rfl (by decide) (fr_Vk (lc_fault hgX hgM hX hbl hbA hj s3 hR ih)))
  by_cases h4 : z = 4
  · exact fr_kV (fr_tbl (hgX σm) (m := 298) h4 dL_law_33 (by decide) (by decide) rfl (by decide) (fr_Vk (lc_tool hgX hgM hX hbl hbA hj s4 hR ih)))
  by_cases h5 : z = 5
  · exact fr_kV (fr_tbl (hgX σm) (m := 341) h5 dL_law_33 (by decide) (by decide) rfl (by decide) (fr_Vk (lc_looks hgX hgM hX hbl hbA hj s5 hR ih)))
  by_cases h6 : z = 6
  · exact fr_kV (fr_tbl (hgX σm) (m := 384) h6 dL_law_33 (by decide) (by decide) rfl (by decide) (fr_Vk (lc_read hgX hgM hX hbl hbA hj s6 hR ih)))
  by_cases h7 : z = 7
  · exact fr_kV (fr_tbl (hgX σm) (m := 417) h7 dL_law_33 (by decide) (by decide) rfl (by decide) (fr_Vk (lc_stroke hgX hgM hX hbl hbA hj s7 hR ih)))
  by_cases h8 : z = 8
  · exact fr_kV (fr_tbl (hgX σm) (m := 450) h8 dL_law_33 (by decide) (by decide) rfl (by decide) (fr_Vk (lc_back hgX hgM hX hbl hbA hj s8 hR ih)))
  by_cases h9 : z = 9
  · exact fr_kV (fr_tbl (hgX σm) (m := 463) h9 dL_law_33 (by decide) (by decide) rfl (by decide) (fr_Vk (lc_judged hgX hgM hX hbl hbA hj s9 hR ih)))
  by_cases h10 : z = 10
  · exact fr_kV (fr_tbl (hgX σm) (m := 476) h10 dL_law_33 (by decide) (by decide) rfl (by decide) (fr_Vk (lc_thick hgX hgM hX hbl hbA hj s10 hR ih)))
  by_cases h11 : z = 11
  · exact fr_kV (fr_tbl (hgX σm) (m := 509) h11 dL_law_33 (by decide) (by decide) rfl (by decide) (fr_Vk (lc_state hgX hgM hX hbl hbA hj s11 hR ih)))
  by_cases h12 : z = 12
  · exact fr_kV (fr_tbl (hgX σm) (m := 542) h12 dL_law_33 (by decide) (by decide) rfl (by decide) (fr_Vk (lc_left hgX hgM hX hbl hbA hj s12 hR ih)))
  by_cases h13 : z = 13
  · exact fr_kV (fr_tbl (hgX σm) (m := 565) h13 dL_law_33 (by decide) (by decide) rfl (by decide) (fr_Vk (lc_risk hgX hgM hX hbl hbA hj s13 hR ih)))
  by_cases h14 : z = 14
  · exact fr_kV (fr_tbl (hgX σm) (m := 588) h14 dL_law_33 (by decide) (by decide) rfl (by decide) (fr_Vk (lc_all hgX hgM hX hbl hbA hj s14 hR ih)))
  by_cases h15 : z = 15
  · exact fr_kV (fr_tbl (hgX σm) (m := 611) h15 dL_law_33 (by decide) (by decide) rfl (by decide) (fr_Vk (lc_first hgX hgM hX hbl hbA hj s15 hR ih)))
  by_cases h16 : z = 16
  · exact fr_kV (fr_tbl (hgX σm) (m := 644) h16 dL_law_33 (by decide) (by decide) rfl (by decide) (fr_Vk (lc_stop hgX hgM hX hbl hbA hj s16 hR ih)))
  by_cases h17 : z = 17
  · exact fr_kV (fr_tbl (hgX σm) (m := 697) h17 dL_law_33 (by decide) (by decide) rfl (by decide) (fr_Vk (lc_warm hgX hgM hX hbl hbA hj s17 hR ih)))
  by_cases h18 : z = 18
  · exact fr_kV (fr_tbl (hgX σm) (m := 740) h18 dL_law_33 (by decide) (by decide) rfl (by decide) (fr_Vk (lc_crack hgX hgM hX hbl hbA hj s18 hR ih)))
  by_cases h19 : z = 19
  · exact fr_kV (fr_tbl (hgX σm) (m := 773) h19 dL_law_33 (by decide) (by decide) rfl (by decide) (fr_Vk (lc_melts hgX hgM hX hbl hbA hj s19 hR ih)))
  by_cases h20 : z = 20
  · exact fr_kV (fr_tbl (hgX σm) (m := 816) h20 dL_law_33 (by decide) (by decide) rfl (by decide) (fr_Vk (lc_again hgX hgM hX hbl hbA hj s20 hR ih)))
  by_cases h21 : z = 21
  · exact fr_kV (fr_tbl (hgX σm) (m := 869) h21 dL_law_33 (by decide) (by decide) rfl (by decide) (fr_Vk (lc_night hgX hgM hX hbl hbA hj s21 hR ih)))
  by_cases h22 : z = 22
  · exact fr_kV (fr_tbl (hgX σm) (m := 912) h22 dL_law_33 (by decide) (by decide) rfl (by decide) (fr_Vk (lc_tonight hgX hgM hX hbl hbA hj s22 hR ih)))
  by_cases h23 : z = 23
  · exact fr_kV (fr_tbl (hgX σm) (m := 976) h23 dL_law_33 (by decide) (by decide) rfl (by decide) (fr_Vk (lc_cover hgX hgM hX hbl hbA hj s23 hR ih)))
  by_cases h24 : z = 24
  · exact fr_kV (fr_tbl (hgX σm) (m := 1029) h24 dL_law_33 (by decide) (by decide) rfl (by decide) (fr_Vk (lc_car hgX hgM hX hbl hbA hj s24 hR ih)))
  by_cases h25 : z = 25
  · exact fr_kV (fr_tbl (hgX σm) (m := 1062) h25 dL_law_33 (by decide) (by decide) rfl (by decide) (fr_Vk (lc_gone hgX hgM hX hbl hbA hj s25 hR ih)))
  by_cases h26 : z = 26
  · exact fr_kV (fr_tbl (hgX σm) (m := 1075) h26 dL_law_33 (by decide) (by decide) rfl (by decide) (fr_Vk (lc_lent hgX hgM hX hbl hbA hj s26 hR ih)))
  by_cases h27 : z = 27
  · exact fr_kV (fr_tbl (hgX σm) (m := 1098) h27 dL_law_33 (by decide) (by decide) rfl (by decide) (fr_Vk (lc_faced hgX hgM hX hbl hbA hj s27 hR ih)))
  by_cases h28 : z = 28
  · exact fr_kV (fr_tbl (hgX σm) (m := 1111) h28 dL_law_33 (by decide) (by decide) rfl (by decide) (fr_Vk (lc_bend hgX hgM hX hbl hbA hj s28 hR ih)))
  by_cases h29 : z = 29
  · exact fr_kV (fr_tbl (hgX σm) (m := 1154) h29 dL_law_33 (by decide) (by decide) rfl (by decide) (fr_Vk (lc_sheet hgX hgM hX hbl hbA hj s29 hR ih)))
  by_cases h30 : z = 30
  · exact fr_kV (fr_tbl (hgX σm) (m := 1197) h30 dL_law_33 (by decide) (by decide) rfl (by decide) (fr_Vk (lc_lose hgX hgM hX hbl hbA hj s30 hR ih)))
  by_cases h31 : z = 31
  · exact fr_kV (fr_tbl (hgX σm) (m := 1220) h31 dL_law_33 (by decide) (by decide) rfl (by decide) (fr_Vk (lc_lay hgX hgM hX hbl hbA hj s31 hR ih)))
  by_cases h32 : z = 32
  · exact fr_kV (fr_tbl (hgX σm) (m := 1273) h32 dL_law_33 (by decide) (by decide) rfl (by decide) (fr_Vk (lc_get hgX hgM hX hbl hbA hj s32 hR ih)))
  by_cases h33 : z = 33
  · exact fr_kV (fr_tbl (hgX σm) (m := 1316) h33 dL_law_33 (by decide) (by decide) rfl (by decide) (fr_Vk (lc_copy hgX hgM hX hbl hbA hj s33 hR ih)))
  by_cases h34 : z = 34
  · exact fr_kV (fr_tbl (hgX σm) (m := 1379) h34 dL_law_33 (by decide) (by decide) rfl (by decide) (fr_Vk (lc_write hgX hgM hX hbl hbA hj s34 hR ih)))
  by_cases h35 : z = 35
  · exact fr_kV (fr_tbl (hgX σm) (m := 1412) h35 dL_law_33 (by decide) (by decide) rfl (by decide) (fr_Vk (lc_count hgX hgM hX hbl hbA hj s35 hR ih)))
  by_cases h36 : z = 36
  · exact fr_kV (fr_tbl (hgX σm) (m := 1435) h36 dL_law_33 (by decide) (by decide) rfl (by decide) (fr_Vk (lc_digest hgX hgM hX hbl hbA hj s36 hR ih)))
  have h0 := lv_neT (a := 0) h0 rfl
  have h1 := lv_neT (a := 1) h1 rfl
  have h2 := lv_neT (a := 2) h2 rfl
  have h3 := lv_neT (a := 3) h3 rfl
  have h4 := lv_neT (a := 4) h4 rfl
  have h5 := lv_neT (a := 5) h5 rfl
  have h6 := lv_neT (a := 6) h6 rfl
  have h7 := lv_neT (a := 7) h7 rfl
  have h8 := lv_neT (a := 8) h8 rfl
  have h9 := lv_neT (a := 9) h9 rfl
  have h10 := lv_neT (a := 10) h10 rfl
  have h11 := lv_neT (a := 11) h11 rfl
  have h12 := lv_neT (a := 12) h12 rfl
  have h13 := lv_neT (a := 13) h13 rfl
  have h14 := lv_neT (a := 14) h14 rfl
  have h15 := lv_neT (a := 15) h15 rfl
  have h16 := lv_neT (a := 16) h16 rfl
  have h17 := lv_neT (a := 17) h17 rfl
  have h18 := lv_neT (a := 18) h18 rfl
  have h19 := lv_neT (a := 19) h19 rfl
  have h20 := lv_neT (a := 20) h20 rfl
  have h21 := lv_neT (a := 21) h21 rfl
  have h22 := lv_neT (a := 22) h22 rfl
  have h23 := lv_neT (a := 23) h23 rfl
  have h24 := lv_neT (a := 24) h24 rfl
  have h25 := lv_neT (a := 25) h25 rfl
  have h26 := lv_neT (a := 26) h26 rfl
  have h27 := lv_neT (a := 27) h27 rfl
  have h28 := lv_neT (a := 28) h28 rfl
  have h29 := lv_neT (a := 29) h29 rfl
  have h30 := lv_neT (a := 30) h30 rfl
  have h31 := lv_neT (a := 31) h31 rfl
  have h32 := lv_neT (a := 32) h32 rfl
  have h33 := lv_neT (a := 33) h33 rfl
  have h34 := lv_neT (a := 34) h34 rfl
  have h35 := lv_neT (a := 35) h35 rfl
  have h36 := lv_neT (a := 36) h36 rfl
  exact fr_kV (fr_tbd (hgX σm) (m := 1449) dL_law_33 (by omega) (by decide) (fr_Vk (ih σx σm hR)))
set_option maxRecDepth 100000 in
set_option maxHeartbeats 4000000 in
theorem law_loop {g : fr_G} {D : va_G} {cs : Nat → ClassId} {A : Nat → Prop} {adx adm : Nat → Nat} {b L : Nat} {xs : Nat → Int32} {Rel : fr_St → fr_St → Prop} (hgX : ∀ σm, fr_ok g (fr_wX D cs A adx adm σm) fr_shX code 4 RL 9 332) (hgM : ∀ σx, fr_ok g (fr_wM D cs A adx adm σx) fr_shM code 4 RL 9 332) (hX : va_X b L xs g.2.2.2.2.1 g.2.2.2.2.1.heap) (hbl : b < g.2.2.2.2.1.heap.size) (hbA : ¬ A b) (hL : L ≤ 384) (hs : sm_sim Rel)
    (hend : ∀ σx σm ls, fr_K g (fr_wX D cs A adx adm σm) 4 1456 ls [.int 1] σx) : ∀ (n j : Nat) (σx σm : fr_St), L < j + n + 1 → j < 1000 → Rel σx σm → fr_K g (fr_wX D cs A adx adm σm) 4 18 [(0, .ref b), (1, .ref (adx 0)), (2, .ref (adm 0)), (3, .int (nI j))] [] σx := by
  intro n
  induction n with
  | zero =>
    intro j σx σm hn hj hR
    refine fr_kV (fr_iload_n (hgX σm) 3 rfl dL_law_18 rfl (fr_Vk ?_))
    refine fr_kV (fr_aload_n (hgX σm) 0 rfl dL_law_19 rfl (fr_Vk ?_))
    refine fr_kslen (hgX σm) hX hbl hbA dL_law_20 rfl ?_
    refine fr_kV (fr_bipush (hgX σm) (v := 6) (by decide) dL_law_21 rfl (fr_Vk ?_))
    refine fr_kV (fr_isub (hgX σm) dL_law_23 rfl (fr_Vk ?_))
    refine fr_kgt (hgX σm) (m := 1455) dL_law_24 (by decide) rfl (fun _ => ?_) (fun h => ?_)
    · exact fr_kV (fr_iconst (hgX σm) (v := 1) (by decide) dL_law_1455 rfl (fr_Vk (hend σx σm _)))
    · exfalso
      apply h
      rw [Int32.lt_iff_toInt_lt, show (6 : Int32) = nI 6 from rfl, pk_sub_toInt (by omega) (by omega), nI_toInt (by omega)]
      omega
  | succ n ihn =>
    intro j σx σm hn hj hR
    refine fr_kV (fr_iload_n (hgX σm) 3 rfl dL_law_18 rfl (fr_Vk ?_))
    refine fr_kV (fr_aload_n (hgX σm) 0 rfl dL_law_19 rfl (fr_Vk ?_))
    refine fr_kslen (hgX σm) hX hbl hbA dL_law_20 rfl ?_
    refine fr_kV (fr_bipush (hgX σm) (v := 6) (by decide) dL_law_21 rfl (fr_Vk ?_))
    refine fr_kV (fr_isub (hgX σm) dL_law_23 rfl (fr_Vk ?_))
    refine fr_kgt (hgX σm) (m := 1455) dL_law_24 (by decide) rfl (fun _ => ?_) (fun h => ?_)
    · exact fr_kV (fr_iconst (hgX σm) (v := 1) (by decide) dL_law_1455 rfl (fr_Vk (hend σx σm _)))
    · have h6 : j + 6 ≤ L := by
        rw [Int32.lt_iff_toInt_lt, show (6 : Int32) = nI 6 from rfl, pk_sub_toInt (by omega) (by omega), nI_toInt (by omega)] at h
        omega
      refine law_body hgX hgM hX hbl hbA ⟨h6, by omega⟩ hs hR (fun σx σm hR => ?_)
      refine fr_kV (fr_iinc (hgX σm) 3 (v := nI (j + 6)) (ls' := [(0, .ref b), (1, .ref (adx 0)), (2, .ref (adm 0)), (3, .int (nI (j + 6)))]) dL_law_1449 rfl (nI_add j 6) (by decide) rfl rfl (fr_Vk ?_))
      refine fr_kV (fr_goto (hgX σm) (n := 18) dL_law_1452 (by decide) (fr_Vk ?_))
      exact ihn (j + 6) σx σm (by omega) (by omega) hR
