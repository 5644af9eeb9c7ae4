/-! the cells of the two systems, and the words of their links (printed by gen.py) -/
def fr_shX : List fr_Sh := [(3, 9, [some 1, some 7, some 9, some 12, some 14, some 17, some 24, some 29, none, none]), (3, 2, [some 2, some 6, none, none, none, none]), (3, 4, [some 4, none]), (3, 4, [some 5, none]), (0, 35, []), (0, 40, []), (0, 32, []), (3, 3, [some 3, some 8, none, none]), (0, 5, []), (3, 0, [some 10, some 11]), (0, 4, []), (0, 4, []), (3, 8, [some 13]), (0, 160, []), (3, 7, [some 15, some 16, none]), (0, 40, []), (0, 40, []), (3, 1, [some 18, some 19, some 20, some 21, some 22, some 23, none, none]), (0, 40, []), (0, 32, []), (0, 4, []), (0, 32, []), (0, 32, []), (0, 10, []), (3, 6, [some 25, some 26, some 27, some 28, none]), (0, 7, []), (0, 7, []), (0, 7, []), (0, 128, []), (2, 4, [some 30, some 31, some 32, some 33]), (3, 5, [some 34, none, none]), (3, 5, [some 35, none, none]), (3, 5, [some 36, none, none]), (3, 5, [some 37, none, none]), (0, 60, []), (0, 60, []), (0, 60, []), (0, 60, [])]
def fr_shM : List fr_Sh := [(3, 10, [some 1, some 2, some 3, some 4, none, some 5, some 6, none, some 7, some 8, some 9, none, none, none, none, some 10, some 11, some 12, some 13, none, some 14, some 15, none, none, none, some 16, some 17, none, some 18, some 19, some 20]), (0, 4, []), (0, 4, []), (0, 240, []), (0, 60, []), (0, 80, []), (0, 2, []), (1, 32, []), (0, 32, []), (0, 32, []), (0, 40, []), (0, 4, []), (0, 4, []), (0, 160, []), (0, 80, []), (0, 4, []), (0, 32, []), (0, 32, []), (0, 14, []), (0, 7, []), (0, 7, [])]
theorem fr_gw1 {x : Cond} (i : Nat) (h : tables_1_1[i]? = some x) (hg : goodWord x = true) : x ∈ fr_gw := List.mem_filter.mpr ⟨List.mem_append_right _ (List.mem_append_left _ (List.mem_of_getElem? h)), hg⟩
theorem fr_gw2 {x : Cond} (i : Nat) (h : tables_1_2[i]? = some x) (hg : goodWord x = true) : x ∈ fr_gw := List.mem_filter.mpr ⟨List.mem_append_right _ (List.mem_append_right _ (List.mem_append_left _ (List.mem_of_getElem? h))), hg⟩
theorem fr_gw3 {x : Cond} (i : Nat) (h : tables_1_3[i]? = some x) (hg : goodWord x = true) : x ∈ fr_gw := List.mem_filter.mpr ⟨List.mem_append_right _ (List.mem_append_right _ (List.mem_append_right _ (List.mem_append_left _ (List.mem_of_getElem? h)))), hg⟩
theorem fr_gw4 {x : Cond} (i : Nat) (h : tables_1_4[i]? = some x) (hg : goodWord x = true) : x ∈ fr_gw := List.mem_filter.mpr ⟨List.mem_append_right _ (List.mem_append_right _ (List.mem_append_right _ (List.mem_append_right _ (List.mem_append_left _ (List.mem_of_getElem? h))))), hg⟩
theorem fr_gw5 {x : Cond} (i : Nat) (h : tables_1_5[i]? = some x) (hg : goodWord x = true) : x ∈ fr_gw := List.mem_filter.mpr ⟨List.mem_append_right _ (List.mem_append_right _ (List.mem_append_right _ (List.mem_append_right _ (List.mem_append_right _ (List.mem_of_getElem? h))))), hg⟩
theorem iw_X0 : ∀ x ∈ u_ws RX0 TX0 2, x ∈ fr_gw := by decide +kernel
theorem iw_X1 : ∀ x ∈ u_ws RX1 TX1 8, x ∈ fr_gw := by decide +kernel
theorem iw_X2 : ∀ x ∈ u_ws RX2 TX2 6, x ∈ fr_gw := by decide +kernel
theorem iw_X3 : ∀ x ∈ u_ws RX3 TX3 4, x ∈ fr_gw := by decide +kernel
theorem iw_X4 : ∀ x ∈ u_ws RX4 TX4 2, x ∈ fr_gw := by decide +kernel
theorem iw_X5 : ∀ x ∈ u_ws RX5 TX5 3, x ∈ fr_gw := by decide +kernel
theorem iw_X6 : ∀ x ∈ u_ws RX6 TX6 5, x ∈ fr_gw := by decide +kernel
theorem iw_X7 : ∀ x ∈ u_ws RX7 TX7 3, x ∈ fr_gw := by decide +kernel
theorem iw_X8 : ∀ x ∈ u_ws RX8 TX8 1, x ∈ fr_gw := by decide +kernel
theorem iw_X9 : ∀ x ∈ u_ws RX9 TX9 10, x ∈ fr_gw := by decide +kernel
theorem iw_X10 : ∀ x ∈ u_ws RX10 TX10 31, x ∈ fr_gw := by decide +kernel
def fr_bl (t : Nat) : Nat := if t = 0 then 35 else 40
theorem sx_29 : ∀ j, j < 4 → [some 30, some 31, some 32, some 33].getD j none = some (30 + j) := by decide
theorem sx_30 {s : Nat} (h : s < 4) : fr_shX[30 + s]? = some (3, 5, [some (34 + s), none, none]) := by
  rcases (by omega : s = 0 ∨ s = 1 ∨ s = 2 ∨ s = 3) with e | e | e | e <;> subst e <;> rfl
theorem sx_34 {s : Nat} (h : s < 4) : fr_shX[34 + s]? = some (0, 60, []) := by
  rcases (by omega : s = 0 ∨ s = 1 ∨ s = 2 ∨ s = 3) with e | e | e | e <;> subst e <;> rfl
theorem sx_2 {t : Nat} (h : t < 2) : fr_shX[2 + t]? = some (3, 4, [some (4 + t), none]) := by
  rcases (by omega : t = 0 ∨ t = 1) with e | e <;> subst e <;> rfl
theorem sx_4 {t : Nat} (h : t < 2) : fr_shX[4 + t]? = some (0, fr_bl t, []) := by
  rcases (by omega : t = 0 ∨ t = 1) with e | e <;> subst e <;> rfl
theorem fr_nb {r : Int32} (h : r = 0 ∨ r = 1) : narrow .boolean (.int r) = .int r := by
  rcases h with e | e <;> subst e <;> rfl
section FRS
variable {g : fr_G} {w : fr_W} {S : List fr_Sh} {cc : ByteArray} {nL : Nat} {own : String} {fr lo : Nat} {τ : Type} {F : Option τ} {P : τ → Prop} {pc m len : Nat} {ls : List (Nat × Value)} {st : List Value} {σ : fr_St} {x kc : Int32} {dflt lo' hi off : Int} {offs : Array Int} {ps : Array (Int × Int)}
theorem fr_tbl (hg : fr_ok g w S cc nL own fr lo) (h : x = kc) (d : decode cc pc = .ok (.tableswitch dflt lo' hi offs, len)) (h1 : ¬ kc.toInt < lo') (h2 : ¬ hi < kc.toInt) (ho : offs[(kc.toInt - lo').toNat]? = some off) (ht : (pc : Int) + off = (m : Int)) (k : fr_V g w nL F P m ls st σ) : fr_V g w nL F P pc ls (.int x :: st) σ := by
  subst h
  exact fun t a b H locs la hP hS hl => lv_tableIn hg.1 hg.2.1 d h1 h2 ho ht (k t a b H locs la hP hS hl)
theorem fr_tbd (hg : fr_ok g w S cc nL own fr lo) (d : decode cc pc = .ok (.tableswitch dflt lo' hi offs, len)) (h : x.toInt < lo' ∨ hi < x.toInt) (ht : (pc : Int) + dflt = (m : Int)) (k : fr_V g w nL F P m ls st σ) : fr_V g w nL F P pc ls (.int x :: st) σ :=
  fun t a b H locs la hP hS hl => lv_tableOut hg.1 hg.2.1 d h ht (k t a b H locs la hP hS hl)
theorem fr_lks (hg : fr_ok g w S cc nL own fr lo) (d : decode cc pc = .ok (.lookupswitch dflt ps, len)) (hp : (ps.toList.zip (ps.toList.drop 1)).all (fun (a, next) => a.1 < next.1) = true) (ho : Op.lookupswitch.offset ps.toList dflt x.toInt = off) (ht : (pc : Int) + off = (m : Int)) (k : fr_V g w nL F P m ls st σ) : fr_V g w nL F P pc ls (.int x :: st) σ :=
  fun t a b H locs la hP hS hl => lv_lookup hg.1 hg.2.1 d hp ho ht (k t a b H locs la hP hS hl)
end FRS
theorem mo_X9_77 : fr_ms RX9 77 yX9_within cX9_within 3 (some .boolean) 3 := ⟨(fr_gw2 27 rfl rfl), (fr_gw2 28 rfl rfl), (fr_gw1 1 rfl rfl), (fr_gw2 29 rfl rfl), by decide, by decide, by decide +kernel⟩
theorem fo_X9_19 : fr_fo RX9 19 9 1 := ⟨RX9, TX9, 10, rfl, by decide, iw_X9, (fr_gw1 230 rfl rfl)⟩
theorem fo_X9_289 : fr_fo RX9 289 3 0 := ⟨RX3, TX3, 4, rfl, by decide, iw_X3, (fr_gw1 86 rfl rfl)⟩
theorem fo_X9_12 : fr_fo RX9 12 9 0 := ⟨RX9, TX9, 10, rfl, by decide, iw_X9, (fr_gw1 229 rfl rfl)⟩
theorem fo_X9_285 : fr_fo RX9 285 2 0 := ⟨RX2, TX2, 6, rfl, by decide, iw_X2, (fr_gw1 52 rfl rfl)⟩
theorem fo_X4_7 : fr_fo RX4 7 4 1 := ⟨RX4, TX4, 2, rfl, by decide, iw_X4, (fr_gw1 38 rfl rfl)⟩
theorem fo_X4_13 : fr_fo RX4 13 4 0 := ⟨RX4, TX4, 2, rfl, by decide, iw_X4, (fr_gw1 35 rfl rfl)⟩
theorem fp_X4_7 : fr_fp RX4 7 4 1 .int := ⟨RX4, TX4, 2, tyX4, rfl, by decide, iw_X4, (fr_gw1 38 rfl rfl), tyX4_ok, nmX4, rfl, by decide +kernel⟩
theorem fo_X2_20 : fr_fo RX2 20 2 1 := ⟨RX2, TX2, 6, rfl, by decide, iw_X2, (fr_gw1 53 rfl rfl)⟩
theorem mo_X2_37 : fr_ms RX2 37 yJ7_fill_53178 cJ7_fill_53178 4 none 2 := ⟨(fr_gw1 48 rfl rfl), (fr_gw1 49 rfl rfl), (fr_gw1 4 rfl rfl), (fr_gw1 50 rfl rfl), by decide, by decide, by decide +kernel⟩
theorem fp_X2_28 : fr_fp RX2 28 2 3 .int := ⟨RX2, TX2, 6, tyX2, rfl, by decide, iw_X2, (fr_gw1 58 rfl rfl), tyX2_ok, nmX2, rfl, by decide +kernel⟩
theorem fp_X2_31 : fr_fp RX2 31 2 4 .int := ⟨RX2, TX2, 6, tyX2, rfl, by decide, iw_X2, (fr_gw1 60 rfl rfl), tyX2_ok, nmX2, rfl, by decide +kernel⟩
theorem fp_X2_34 : fr_fp RX2 34 2 5 .int := ⟨RX2, TX2, 6, tyX2, rfl, by decide, iw_X2, (fr_gw1 62 rfl rfl), tyX2_ok, nmX2, rfl, by decide +kernel⟩
theorem mo_X2_67 : fr_mn RX2 67 yX9_isCell "FrostHole" cX9_isCell 1 (some .boolean) 1 := ⟨List.mem_of_getElem? (i := 7) rfl, (fr_gw2 67 rfl rfl), (fr_gw1 1 rfl rfl), (fr_gw2 68 rfl rfl), by decide, by decide, by decide +kernel⟩
theorem fo_X2_28 : fr_fo RX2 28 2 3 := ⟨RX2, TX2, 6, rfl, by decide, iw_X2, (fr_gw1 58 rfl rfl)⟩
theorem fo_X2_31 : fr_fo RX2 31 2 4 := ⟨RX2, TX2, 6, rfl, by decide, iw_X2, (fr_gw1 60 rfl rfl)⟩
theorem fo_X2_34 : fr_fo RX2 34 2 5 := ⟨RX2, TX2, 6, rfl, by decide, iw_X2, (fr_gw1 62 rfl rfl)⟩
theorem fo_X2_14 : fr_fo RX2 14 2 0 := ⟨RX2, TX2, 6, rfl, by decide, iw_X2, (fr_gw1 51 rfl rfl)⟩
theorem fo_X2_50 : fr_fo RX2 50 4 1 := ⟨RX4, TX4, 2, rfl, by decide, iw_X4, (fr_gw1 41 rfl rfl)⟩
theorem fo_X2_53 : fr_fo RX2 53 4 0 := ⟨RX4, TX4, 2, rfl, by decide, iw_X4, (fr_gw1 37 rfl rfl)⟩
theorem mo_X2_60 : fr_mn RX2 60 yX9_within "FrostHole" cX9_within 3 (some .boolean) 3 := ⟨List.mem_of_getElem? (i := 6) rfl, (fr_gw2 28 rfl rfl), (fr_gw1 1 rfl rfl), (fr_gw2 29 rfl rfl), by decide, by decide, by decide +kernel⟩
theorem mo_X2_63 : fr_mv RX2 63 yX2_addCell cX2_addCell 3 none 2 := ⟨(fr_gw2 62 rfl rfl), (fr_gw2 64 rfl rfl), (fr_gwP 4 rfl rfl), (fr_gw1 2 rfl rfl), (fr_gw2 65 rfl rfl), by decide, by decide, by decide +kernel⟩
theorem mo_X2_56 : fr_ms RX2 56 yX2_mayEnd cX2_mayEnd 3 (some .boolean) 3 := ⟨(fr_gw2 58 rfl rfl), (fr_gw2 59 rfl rfl), (fr_gw1 2 rfl rfl), (fr_gw2 60 rfl rfl), by decide, by decide, by decide +kernel⟩
theorem mo_X2_43 : fr_mv RX2 43 yX2_empty cX2_empty 1 none 0 := ⟨(fr_gw2 50 rfl rfl), (fr_gw2 52 rfl rfl), (fr_gwP 2 rfl rfl), (fr_gw1 2 rfl rfl), (fr_gw2 53 rfl rfl), by decide, by decide, by decide +kernel⟩
theorem mo_X2_46 : fr_mv RX2 46 yX2_readRows cX2_readRows 6 (some .int) 0 := ⟨(fr_gw2 54 rfl rfl), (fr_gw2 56 rfl rfl), (fr_gwP 3 rfl rfl), (fr_gw1 2 rfl rfl), (fr_gw2 57 rfl rfl), by decide, by decide, by decide +kernel⟩
theorem fp_X2_24 : fr_fp RX2 24 2 2 .int := ⟨RX2, TX2, 6, tyX2, rfl, by decide, iw_X2, (fr_gw1 56 rfl rfl), tyX2_ok, nmX2, rfl, by decide +kernel⟩
theorem fo_X2_24 : fr_fo RX2 24 2 2 := ⟨RX2, TX2, 6, rfl, by decide, iw_X2, (fr_gw1 56 rfl rfl)⟩
theorem fo_X3_20 : fr_fo RX3 20 3 1 := ⟨RX3, TX3, 4, rfl, by decide, iw_X3, (fr_gw1 87 rfl rfl)⟩
theorem mo_X3_31 : fr_ms RX3 31 yJ7_fill_53178 cJ7_fill_53178 4 none 2 := ⟨(fr_gw2 73 rfl rfl), (fr_gw1 49 rfl rfl), (fr_gw1 4 rfl rfl), (fr_gw1 50 rfl rfl), by decide, by decide, by decide +kernel⟩
theorem fp_X3_24 : fr_fp RX3 24 3 2 .int := ⟨RX3, TX3, 4, tyX3, rfl, by decide, iw_X3, (fr_gw1 89 rfl rfl), tyX3_ok, nmX3, rfl, by decide +kernel⟩
theorem fo_X3_14 : fr_fo RX3 14 3 0 := ⟨RX3, TX3, 4, rfl, by decide, iw_X3, (fr_gw1 85 rfl rfl)⟩
theorem fo_X3_37 : fr_fo RX3 37 4 1 := ⟨RX4, TX4, 2, rfl, by decide, iw_X4, (fr_gw1 39 rfl rfl)⟩
theorem fo_X3_24 : fr_fo RX3 24 3 2 := ⟨RX3, TX3, 4, rfl, by decide, iw_X3, (fr_gw1 89 rfl rfl)⟩
theorem fo_X3_40 : fr_fo RX3 40 4 0 := ⟨RX4, TX4, 2, rfl, by decide, iw_X4, (fr_gw1 36 rfl rfl)⟩
theorem mo_X3_43 : fr_ms RX3 43 yX3_kindOf cX3_kindOf 1 (some .int) 1 := ⟨(fr_gw2 74 rfl rfl), (fr_gw2 75 rfl rfl), (fr_gw1 5 rfl rfl), (fr_gw2 76 rfl rfl), by decide, by decide, by decide +kernel⟩
theorem mo_X3_47 : fr_mn RX3 47 yX9_isKind "FrostHole" cX9_isKind 1 (some .boolean) 1 := ⟨List.mem_of_getElem? (i := 8) rfl, (fr_gw2 78 rfl rfl), (fr_gw1 1 rfl rfl), (fr_gw2 79 rfl rfl), by decide, by decide, by decide +kernel⟩
theorem fp_X3_28 : fr_fp RX3 28 3 3 .int := ⟨RX3, TX3, 4, tyX3, rfl, by decide, iw_X3, (fr_gw1 91 rfl rfl), tyX3_ok, nmX3, rfl, by decide +kernel⟩
theorem mo_X9_353 : fr_mv RX9 353 yX3_reread cX3_reread 3 none 0 := ⟨(fr_gw2 69 rfl rfl), (fr_gw2 70 rfl rfl), (fr_gw2 71 rfl rfl), (fr_gw1 5 rfl rfl), (fr_gw2 72 rfl rfl), by decide, by decide, by decide +kernel⟩
theorem fp_X9_64 : fr_fp RX9 64 9 8 .boolean := ⟨RX9, TX9, 10, tyX9, rfl, by decide, iw_X9, (fr_gw1 237 rfl rfl), tyX9_ok, nmX9, rfl, by decide +kernel⟩
theorem mo_X9_351 : fr_mv RX9 351 yX2_reread cX2_reread 1 none 0 := ⟨(fr_gw2 46 rfl rfl), (fr_gw2 47 rfl rfl), (fr_gw2 48 rfl rfl), (fr_gw1 2 rfl rfl), (fr_gw2 49 rfl rfl), by decide, by decide, by decide +kernel⟩
theorem mo_X9_73 : fr_ms RX9 73 yX9_isText cX9_isText 1 (some .boolean) 1 := ⟨(fr_gw2 24 rfl rfl), (fr_gw2 25 rfl rfl), (fr_gw1 1 rfl rfl), (fr_gw2 26 rfl rfl), by decide, by decide, by decide +kernel⟩
theorem mo_X9_81 : fr_mv RX9 81 yX9_scriptOf cX9_scriptOf 2 (some (.object "FrostHole$Script")) 1 := ⟨(fr_gw2 30 rfl rfl), (fr_gw2 32 rfl rfl), (fr_gwP 0 rfl rfl), (fr_gw1 1 rfl rfl), (fr_gw2 33 rfl rfl), by decide, by decide, by decide +kernel⟩
theorem mo_X9_85 : fr_mv RX9 85 yX4_isFull cX4_isFull 1 (some .boolean) 0 := ⟨(fr_gw2 34 rfl rfl), (fr_gw2 35 rfl rfl), (fr_gw2 36 rfl rfl), (fr_gw1 3 rfl rfl), (fr_gw2 37 rfl rfl), by decide, by decide, by decide +kernel⟩
theorem mo_X9_91 : fr_mv RX9 91 yX4_append cX4_append 2 none 1 := ⟨(fr_gw2 38 rfl rfl), (fr_gw2 39 rfl rfl), (fr_gw2 40 rfl rfl), (fr_gw1 3 rfl rfl), (fr_gw2 41 rfl rfl), by decide, by decide, by decide +kernel⟩
theorem mo_X9_95 : fr_mv RX9 95 yX9_reread cX9_reread 2 none 1 := ⟨(fr_gw2 42 rfl rfl), (fr_gw2 44 rfl rfl), (fr_gwP 1 rfl rfl), (fr_gw1 1 rfl rfl), (fr_gw2 45 rfl rfl), by decide, by decide, by decide +kernel⟩
theorem fo_X9_98 : fr_fo RX9 98 4 1 := ⟨RX4, TX4, 2, rfl, by decide, iw_X4, (fr_gw1 40 rfl rfl)⟩
theorem fp_X9_98 : fr_fp RX9 98 4 1 .int := ⟨RX4, TX4, 2, tyX4, rfl, by decide, iw_X4, (fr_gw1 40 rfl rfl), tyX4_ok, nmX4, rfl, by decide +kernel⟩
theorem fo_X9_104 : fr_fo RX9 104 3 2 := ⟨RX3, TX3, 4, rfl, by decide, iw_X3, (fr_gw1 90 rfl rfl)⟩
theorem fo_X9_101 : fr_fo RX9 101 2 2 := ⟨RX2, TX2, 6, rfl, by decide, iw_X2, (fr_gw1 57 rfl rfl)⟩
theorem mo_X9_105 : fr_ms RX9 105 yX9_isTool cX9_isTool 1 (some .boolean) 1 := ⟨(fr_gw2 96 rfl rfl), (fr_gw2 97 rfl rfl), (fr_gw1 1 rfl rfl), (fr_gw2 98 rfl rfl), by decide, by decide, by decide +kernel⟩
theorem mo_X9_108 : fr_ms RX9 108 yX9_isPair cX9_isPair 1 (some .boolean) 1 := ⟨(fr_gw2 99 rfl rfl), (fr_gw2 100 rfl rfl), (fr_gw1 1 rfl rfl), (fr_gw2 101 rfl rfl), by decide, by decide, by decide +kernel⟩
theorem fo_X9_26 : fr_fo RX9 26 9 2 := ⟨RX9, TX9, 10, rfl, by decide, iw_X9, (fr_gw1 231 rfl rfl)⟩
theorem fo_X9_115 : fr_fo RX9 115 0 1 := ⟨RX0, TX0, 2, rfl, by decide, iw_X0, (fr_gw1 113 rfl rfl)⟩
theorem fo_X9_111 : fr_fo RX9 111 0 0 := ⟨RX0, TX0, 2, rfl, by decide, iw_X0, (fr_gw1 109 rfl rfl)⟩
theorem mo_X8_15 : fr_mn RX8 15 yX9_isKind "FrostHole" cX9_isKind 1 (some .boolean) 1 := ⟨List.mem_of_getElem? (i := 9) rfl, (fr_gw2 78 rfl rfl), (fr_gw1 1 rfl rfl), (fr_gw2 79 rfl rfl), by decide, by decide, by decide +kernel⟩
theorem mo_X8_19 : fr_mn RX8 19 yX9_isCell "FrostHole" cX9_isCell 1 (some .boolean) 1 := ⟨List.mem_of_getElem? (i := 10) rfl, (fr_gw2 67 rfl rfl), (fr_gw1 1 rfl rfl), (fr_gw2 68 rfl rfl), by decide, by decide, by decide +kernel⟩
theorem fo_X8_9 : fr_fo RX8 9 8 0 := ⟨RX8, TX8, 1, rfl, by decide, iw_X8, (fr_gw1 125 rfl rfl)⟩
theorem mo_X9_118 : fr_ms RX9 118 yX9_isKind cX9_isKind 1 (some .boolean) 1 := ⟨(fr_gw2 106 rfl rfl), (fr_gw2 78 rfl rfl), (fr_gw1 1 rfl rfl), (fr_gw2 79 rfl rfl), by decide, by decide, by decide +kernel⟩
theorem mo_X9_121 : fr_ms RX9 121 yX9_isCell cX9_isCell 1 (some .boolean) 1 := ⟨(fr_gw2 107 rfl rfl), (fr_gw2 67 rfl rfl), (fr_gw1 1 rfl rfl), (fr_gw2 68 rfl rfl), by decide, by decide, by decide +kernel⟩
theorem fo_X9_33 : fr_fo RX9 33 9 3 := ⟨RX9, TX9, 10, rfl, by decide, iw_X9, (fr_gw1 232 rfl rfl)⟩
theorem mo_X9_124 : fr_mv RX9 124 yX8_at cX8_at 3 (some .int) 2 := ⟨(fr_gw2 108 rfl rfl), (fr_gw2 109 rfl rfl), (fr_gw2 110 rfl rfl), (fr_gw1 7 rfl rfl), (fr_gw2 111 rfl rfl), by decide, by decide, by decide +kernel⟩
theorem mo_X9_128 : fr_mv RX9 128 yX8_put cX8_put 4 none 3 := ⟨(fr_gw2 114 rfl rfl), (fr_gw2 115 rfl rfl), (fr_gw2 116 rfl rfl), (fr_gw1 7 rfl rfl), (fr_gw2 117 rfl rfl), by decide, by decide, by decide +kernel⟩
theorem fo_X5_15 : fr_fo RX5 15 5 1 := ⟨RX5, TX5, 3, rfl, by decide, iw_X5, (fr_gw1 218 rfl rfl)⟩
theorem fp_X9_68 : fr_fp RX9 68 9 9 .int := ⟨RX9, TX9, 10, tyX9, rfl, by decide, iw_X9, (fr_gw1 238 rfl rfl), tyX9_ok, nmX9, rfl, by decide +kernel⟩
theorem mo_X9_132 : fr_ms RX9 132 yX9_isSheet cX9_isSheet 1 (some .boolean) 1 := ⟨(fr_gw2 122 rfl rfl), (fr_gw2 123 rfl rfl), (fr_gw1 1 rfl rfl), (fr_gw2 124 rfl rfl), by decide, by decide, by decide +kernel⟩
theorem fo_X9_60 : fr_fo RX9 60 9 7 := ⟨RX9, TX9, 10, rfl, by decide, iw_X9, (fr_gw1 236 rfl rfl)⟩
theorem mo_X9_135 : fr_mv RX9 135 yX5_isLost cX5_isLost 1 (some .boolean) 0 := ⟨(fr_gw2 125 rfl rfl), (fr_gw2 126 rfl rfl), (fr_gw2 127 rfl rfl), (fr_gw1 11 rfl rfl), (fr_gw2 128 rfl rfl), by decide, by decide, by decide +kernel⟩
theorem fo_X9_142 : fr_fo RX9 142 5 2 := ⟨RX5, TX5, 3, rfl, by decide, iw_X5, (fr_gw1 221 rfl rfl)⟩
theorem mo_X9_143 : fr_mx RX9 143 Lib.Math.min.name Lib.Math.min.code := ⟨(fr_gw2 133 rfl rfl), (fr_gw2 134 rfl rfl), (fr_gw1 13 rfl rfl), (fr_gw2 135 rfl rfl)⟩
theorem fo_X9_148 : fr_fo RX9 148 5 0 := ⟨RX5, TX5, 3, rfl, by decide, iw_X5, (fr_gw1 217 rfl rfl)⟩
theorem mo_X9_138 : fr_mv RX9 138 yX9_found cX9_found 2 (some .int) 1 := ⟨(fr_gw2 129 rfl rfl), (fr_gw2 131 rfl rfl), (fr_gwP 5 rfl rfl), (fr_gw1 1 rfl rfl), (fr_gw2 132 rfl rfl), by decide, by decide, by decide +kernel⟩
theorem fo_X7_18 : fr_fo RX7 18 7 2 := ⟨RX7, TX7, 3, rfl, by decide, iw_X7, (fr_gw1 140 rfl rfl)⟩
theorem fo_X7_9 : fr_fo RX7 9 7 0 := ⟨RX7, TX7, 3, rfl, by decide, iw_X7, (fr_gw1 136 rfl rfl)⟩
theorem fo_X7_15 : fr_fo RX7 15 7 1 := ⟨RX7, TX7, 3, rfl, by decide, iw_X7, (fr_gw1 138 rfl rfl)⟩
theorem fp_X7_18 : fr_fp RX7 18 7 2 .int := ⟨RX7, TX7, 3, tyX7, rfl, by decide, iw_X7, (fr_gw1 140 rfl rfl), tyX7_ok, nmX7, rfl, by decide +kernel⟩
theorem fo_X9_40 : fr_fo RX9 40 9 4 := ⟨RX9, TX9, 10, rfl, by decide, iw_X9, (fr_gw1 233 rfl rfl)⟩
theorem fo_X9_151 : fr_fo RX9 151 7 2 := ⟨RX7, TX7, 3, rfl, by decide, iw_X7, (fr_gw1 142 rfl rfl)⟩
theorem mo_X9_152 : fr_mv RX9 152 yX7_append cX7_append 3 none 2 := ⟨(fr_gw2 140 rfl rfl), (fr_gw2 141 rfl rfl), (fr_gw2 142 rfl rfl), (fr_gw1 8 rfl rfl), (fr_gw2 143 rfl rfl), by decide, by decide, by decide +kernel⟩
theorem fp_X9_151 : fr_fp RX9 151 7 2 .int := ⟨RX7, TX7, 3, tyX7, rfl, by decide, iw_X7, (fr_gw1 142 rfl rfl), tyX7_ok, nmX7, rfl, by decide +kernel⟩
theorem fo_X1_37 : fr_fo RX1 37 2 1 := ⟨RX2, TX2, 6, rfl, by decide, iw_X2, (fr_gw1 54 rfl rfl)⟩
theorem fo_X1_15 : fr_fo RX1 15 1 1 := ⟨RX1, TX1, 8, rfl, by decide, iw_X1, (fr_gw1 157 rfl rfl)⟩
theorem mo_X1_42 : fr_mc RX1 42 := ⟨(fr_gw2 160 rfl rfl), (fr_gw2 162 rfl rfl), (fr_gw2 161 rfl rfl), (fr_gw1 14 rfl rfl)⟩
theorem fo_X1_48 : fr_fo RX1 48 0 1 := ⟨RX0, TX0, 2, rfl, by decide, iw_X0, (fr_gw1 112 rfl rfl)⟩
theorem fo_X1_18 : fr_fo RX1 18 1 2 := ⟨RX1, TX1, 8, rfl, by decide, iw_X1, (fr_gw1 158 rfl rfl)⟩
theorem fo_X1_53 : fr_fo RX1 53 7 2 := ⟨RX7, TX7, 3, rfl, by decide, iw_X7, (fr_gw1 141 rfl rfl)⟩
theorem fo_X1_58 : fr_fo RX1 58 7 0 := ⟨RX7, TX7, 3, rfl, by decide, iw_X7, (fr_gw1 137 rfl rfl)⟩
theorem fo_X1_61 : fr_fo RX1 61 7 1 := ⟨RX7, TX7, 3, rfl, by decide, iw_X7, (fr_gw1 139 rfl rfl)⟩
theorem fo_X1_9 : fr_fo RX1 9 1 0 := ⟨RX1, TX1, 8, rfl, by decide, iw_X1, (fr_gw1 156 rfl rfl)⟩
theorem mo_X1_64 : fr_mn RX1 64 yX9_isTool "FrostHole" cX9_isTool 1 (some .boolean) 1 := ⟨List.mem_of_getElem? (i := 11) rfl, (fr_gw2 97 rfl rfl), (fr_gw1 1 rfl rfl), (fr_gw2 98 rfl rfl), by decide, by decide, by decide +kernel⟩
theorem mo_X1_68 : fr_mn RX1 68 yX9_isCell "FrostHole" cX9_isCell 1 (some .boolean) 1 := ⟨List.mem_of_getElem? (i := 12) rfl, (fr_gw2 67 rfl rfl), (fr_gw1 1 rfl rfl), (fr_gw2 68 rfl rfl), by decide, by decide, by decide +kernel⟩
theorem fo_X1_27 : fr_fo RX1 27 1 5 := ⟨RX1, TX1, 8, rfl, by decide, iw_X1, (fr_gw1 163 rfl rfl)⟩
theorem mo_X1_71 : fr_ms RX1 71 yJ7_fill_53178 cJ7_fill_53178 4 none 2 := ⟨(fr_gw2 169 rfl rfl), (fr_gw1 49 rfl rfl), (fr_gw1 4 rfl rfl), (fr_gw1 50 rfl rfl), by decide, by decide, by decide +kernel⟩
theorem fp_X1_34 : fr_fp RX1 34 1 7 .int := ⟨RX1, TX1, 8, tyX1, rfl, by decide, iw_X1, (fr_gw1 166 rfl rfl), tyX1_ok, nmX1, rfl, by decide +kernel⟩
theorem fo_X1_21 : fr_fo RX1 21 1 3 := ⟨RX1, TX1, 8, rfl, by decide, iw_X1, (fr_gw1 160 rfl rfl)⟩
theorem fo_X1_77 : fr_fo RX1 77 3 1 := ⟨RX3, TX3, 4, rfl, by decide, iw_X3, (fr_gw1 88 rfl rfl)⟩
theorem fo_X1_82 : fr_fo RX1 82 8 0 := ⟨RX8, TX8, 1, rfl, by decide, iw_X8, (fr_gw1 126 rfl rfl)⟩
theorem mo_X1_87 : fr_mn RX1 87 yX9_within "FrostHole" cX9_within 3 (some .boolean) 3 := ⟨List.mem_of_getElem? (i := 13) rfl, (fr_gw2 28 rfl rfl), (fr_gw1 1 rfl rfl), (fr_gw2 29 rfl rfl), by decide, by decide, by decide +kernel⟩
theorem fo_X1_34 : fr_fo RX1 34 1 7 := ⟨RX1, TX1, 8, rfl, by decide, iw_X1, (fr_gw1 166 rfl rfl)⟩
theorem fp_X1_30 : fr_fp RX1 30 1 6 .int := ⟨RX1, TX1, 8, tyX1, rfl, by decide, iw_X1, (fr_gw1 164 rfl rfl), tyX1_ok, nmX1, rfl, by decide +kernel⟩
theorem fo_X1_30 : fr_fo RX1 30 1 6 := ⟨RX1, TX1, 8, rfl, by decide, iw_X1, (fr_gw1 164 rfl rfl)⟩
theorem fo_X1_24 : fr_fo RX1 24 1 4 := ⟨RX1, TX1, 8, rfl, by decide, iw_X1, (fr_gw1 161 rfl rfl)⟩
theorem mo_X1_91 : fr_mv RX1 91 yX1_isQuicker cX1_isQuicker 3 (some .boolean) 2 := ⟨(fr_gw2 175 rfl rfl), (fr_gw2 177 rfl rfl), (fr_gwP 7 rfl rfl), (fr_gw1 9 rfl rfl), (fr_gw2 178 rfl rfl), by decide, by decide, by decide +kernel⟩
theorem fo_X9_64 : fr_fo RX9 64 9 8 := ⟨RX9, TX9, 10, rfl, by decide, iw_X9, (fr_gw1 237 rfl rfl)⟩
theorem fo_X9_47 : fr_fo RX9 47 9 5 := ⟨RX9, TX9, 10, rfl, by decide, iw_X9, (fr_gw1 234 rfl rfl)⟩
theorem mo_X9_354 : fr_mv RX9 354 yX1_scrape cX1_scrape 7 none 3 := ⟨(fr_gw2 156 rfl rfl), (fr_gw2 157 rfl rfl), (fr_gw2 158 rfl rfl), (fr_gw1 9 rfl rfl), (fr_gw2 159 rfl rfl), by decide, by decide, by decide +kernel⟩
theorem mo_X9_358 : fr_mv RX9 358 yX1_weigh cX1_weigh 5 none 2 := ⟨(fr_gw2 165 rfl rfl), (fr_gw2 166 rfl rfl), (fr_gw2 167 rfl rfl), (fr_gw1 9 rfl rfl), (fr_gw2 168 rfl rfl), by decide, by decide, by decide +kernel⟩
theorem mo_X9_362 : fr_mv RX9 362 yX1_order cX1_order 3 none 0 := ⟨(fr_gw2 171 rfl rfl), (fr_gw2 172 rfl rfl), (fr_gw2 173 rfl rfl), (fr_gw1 9 rfl rfl), (fr_gw2 174 rfl rfl), by decide, by decide, by decide +kernel⟩
theorem mo_X9_155 : fr_mv RX9 155 yX9_settled cX9_settled 1 (some (.object "FrostHole$Morning")) 0 := ⟨(fr_gw2 152 rfl rfl), (fr_gw2 154 rfl rfl), (fr_gwP 6 rfl rfl), (fr_gw1 1 rfl rfl), (fr_gw2 155 rfl rfl), by decide, by decide, by decide +kernel⟩
theorem mo_X9_159 : fr_mv RX9 159 yX1_firstNotDone cX1_firstNotDone 3 (some .int) 1 := ⟨(fr_gw2 179 rfl rfl), (fr_gw2 180 rfl rfl), (fr_gw2 181 rfl rfl), (fr_gw1 9 rfl rfl), (fr_gw2 182 rfl rfl), by decide, by decide, by decide +kernel⟩
theorem fo_X9_162 : fr_fo RX9 162 2 1 := ⟨RX2, TX2, 6, rfl, by decide, iw_X2, (fr_gw1 55 rfl rfl)⟩
theorem mo_X9_165 : fr_mv RX9 165 yX1_clearedBehind cX1_clearedBehind 5 (some .boolean) 3 := ⟨(fr_gw2 187 rfl rfl), (fr_gw2 188 rfl rfl), (fr_gw2 189 rfl rfl), (fr_gw1 9 rfl rfl), (fr_gw2 190 rfl rfl), by decide, by decide, by decide +kernel⟩
theorem fo_X1_95 : fr_fo RX1 95 0 0 := ⟨RX0, TX0, 2, rfl, by decide, iw_X0, (fr_gw1 110 rfl rfl)⟩
theorem fo_X9_177 : fr_fo RX9 177 2 5 := ⟨RX2, TX2, 6, rfl, by decide, iw_X2, (fr_gw1 63 rfl rfl)⟩
theorem mo_X9_180 : fr_mv RX9 180 yX1_doneBehind cX1_doneBehind 4 (some .int) 1 := ⟨(fr_gw2 203 rfl rfl), (fr_gw2 204 rfl rfl), (fr_gw2 205 rfl rfl), (fr_gw1 9 rfl rfl), (fr_gw2 206 rfl rfl), by decide, by decide, by decide +kernel⟩
theorem mo_X9_173 : fr_mv RX9 173 yX1_riskBehind cX1_riskBehind 7 (some .int) 3 := ⟨(fr_gw2 199 rfl rfl), (fr_gw2 200 rfl rfl), (fr_gw2 201 rfl rfl), (fr_gw1 9 rfl rfl), (fr_gw2 202 rfl rfl), by decide, by decide, by decide +kernel⟩
theorem mo_X9_169 : fr_mv RX9 169 yX1_secondsBehind cX1_secondsBehind 7 (some .int) 3 := ⟨(fr_gw2 195 rfl rfl), (fr_gw2 196 rfl rfl), (fr_gw2 197 rfl rfl), (fr_gw1 9 rfl rfl), (fr_gw2 198 rfl rfl), by decide, by decide, by decide +kernel⟩
theorem fo_X9_183 : fr_fo RX9 183 1 2 := ⟨RX1, TX1, 8, rfl, by decide, iw_X1, (fr_gw1 159 rfl rfl)⟩
theorem fo_X9_282 : fr_fo RX9 282 3 3 := ⟨RX3, TX3, 4, rfl, by decide, iw_X3, (fr_gw1 92 rfl rfl)⟩
theorem fo_X3_28 : fr_fo RX3 28 3 3 := ⟨RX3, TX3, 4, rfl, by decide, iw_X3, (fr_gw1 91 rfl rfl)⟩
theorem mo_X3_51 : fr_mn RX3 51 yX9_within "FrostHole" cX9_within 3 (some .boolean) 3 := ⟨List.mem_of_getElem? (i := 14) rfl, (fr_gw2 28 rfl rfl), (fr_gw1 1 rfl rfl), (fr_gw2 29 rfl rfl), by decide, by decide, by decide +kernel⟩
theorem mo_X1_98 : fr_mn RX1 98 yX9_isKind "FrostHole" cX9_isKind 1 (some .boolean) 1 := ⟨List.mem_of_getElem? (i := 15) rfl, (fr_gw2 78 rfl rfl), (fr_gw1 1 rfl rfl), (fr_gw2 79 rfl rfl), by decide, by decide, by decide +kernel⟩
theorem mo_X9_186 : fr_mv RX9 186 yX9_isStretch cX9_isStretch 2 (some .boolean) 1 := ⟨(fr_gw2 215 rfl rfl), (fr_gw2 217 rfl rfl), (fr_gwP 8 rfl rfl), (fr_gw1 1 rfl rfl), (fr_gw2 218 rfl rfl), by decide, by decide, by decide +kernel⟩
theorem mo_X9_189 : fr_mv RX9 189 yX3_kindAt cX3_kindAt 2 (some .int) 1 := ⟨(fr_gw2 219 rfl rfl), (fr_gw2 220 rfl rfl), (fr_gw2 221 rfl rfl), (fr_gw1 5 rfl rfl), (fr_gw2 222 rfl rfl), by decide, by decide, by decide +kernel⟩
theorem mo_X9_192 : fr_mv RX9 192 yX1_riskOfKind cX1_riskOfKind 5 (some .int) 2 := ⟨(fr_gw2 224 rfl rfl), (fr_gw2 225 rfl rfl), (fr_gw2 226 rfl rfl), (fr_gw1 9 rfl rfl), (fr_gw2 227 rfl rfl), by decide, by decide, by decide +kernel⟩
theorem fo_X9_196 : fr_fo RX9 196 1 7 := ⟨RX1, TX1, 8, rfl, by decide, iw_X1, (fr_gw1 167 rfl rfl)⟩
theorem fo_X9_199 : fr_fo RX9 199 1 6 := ⟨RX1, TX1, 8, rfl, by decide, iw_X1, (fr_gw1 165 rfl rfl)⟩
theorem fo_X9_202 : fr_fo RX9 202 1 4 := ⟨RX1, TX1, 8, rfl, by decide, iw_X1, (fr_gw1 162 rfl rfl)⟩
theorem mo_X1_101 : fr_mv RX1 101 yX1_changeAt cX1_changeAt 4 (some .int) 3 := ⟨(fr_gw3 5 rfl rfl), (fr_gw3 7 rfl rfl), (fr_gwP 9 rfl rfl), (fr_gw1 9 rfl rfl), (fr_gw3 8 rfl rfl), by decide, by decide, by decide +kernel⟩
theorem mo_X9_205 : fr_mv RX9 205 yX1_cheapestStop cX1_cheapestStop 7 (some .int) 2 := ⟨(fr_gw3 1 rfl rfl), (fr_gw3 2 rfl rfl), (fr_gw3 3 rfl rfl), (fr_gw1 9 rfl rfl), (fr_gw3 4 rfl rfl), by decide, by decide, by decide +kernel⟩
theorem mo_X9_208 : fr_mv RX9 208 yX1_change cX1_change 6 (some .int) 3 := ⟨(fr_gw3 9 rfl rfl), (fr_gw3 10 rfl rfl), (fr_gw3 11 rfl rfl), (fr_gw1 9 rfl rfl), (fr_gw3 12 rfl rfl), by decide, by decide, by decide +kernel⟩
theorem mo_X9_216 : fr_mv RX9 216 yX1_clearWithBoth cX1_clearWithBoth 8 (some .int) 2 := ⟨(fr_gw3 21 rfl rfl), (fr_gw3 22 rfl rfl), (fr_gw3 23 rfl rfl), (fr_gw1 9 rfl rfl), (fr_gw3 24 rfl rfl), by decide, by decide, by decide +kernel⟩
theorem mo_X9_212 : fr_mv RX9 212 yX1_thickest cX1_thickest 2 (some .int) 0 := ⟨(fr_gw3 17 rfl rfl), (fr_gw3 18 rfl rfl), (fr_gw3 19 rfl rfl), (fr_gw1 9 rfl rfl), (fr_gw3 20 rfl rfl), by decide, by decide, by decide +kernel⟩
theorem mo_X9_219 : fr_ms RX9 219 yX9_cracks cX9_cracks 2 (some .boolean) 2 := ⟨(fr_gw3 29 rfl rfl), (fr_gw3 30 rfl rfl), (fr_gw1 1 rfl rfl), (fr_gw3 31 rfl rfl), by decide, by decide, by decide +kernel⟩
theorem mo_X1_105 : fr_mx RX1 105 Lib.Math.min.name Lib.Math.min.code := ⟨(fr_gw3 40 rfl rfl), (fr_gw2 134 rfl rfl), (fr_gw1 13 rfl rfl), (fr_gw2 135 rfl rfl)⟩
theorem mo_X9_223 : fr_mv RX9 223 yX1_clearedByCups cX1_clearedByCups 8 (some .int) 2 := ⟨(fr_gw3 36 rfl rfl), (fr_gw3 37 rfl rfl), (fr_gw3 38 rfl rfl), (fr_gw1 9 rfl rfl), (fr_gw3 39 rfl rfl), by decide, by decide, by decide +kernel⟩
theorem mo_X9_226 : fr_mx RX9 226 Lib.Math.max.name Lib.Math.max.code := ⟨(fr_gw3 45 rfl rfl), (fr_gw3 46 rfl rfl), (fr_gw1 13 rfl rfl), (fr_gw3 47 rfl rfl)⟩
theorem mo_X9_229 : fr_ms RX9 229 yX9_frostOf cX9_frostOf 4 (some .int) 3 := ⟨(fr_gw3 52 rfl rfl), (fr_gw3 53 rfl rfl), (fr_gw1 1 rfl rfl), (fr_gw3 54 rfl rfl), by decide, by decide, by decide +kernel⟩
theorem fo_X9_279 : fr_fo RX9 279 2 3 := ⟨RX2, TX2, 6, rfl, by decide, iw_X2, (fr_gw1 59 rfl rfl)⟩
theorem cl_X9_232 : Cond.constantLong RX9 232 (-9223372036854775806) ∈ fr_gw := (fr_gw3 59 rfl rfl)
theorem mo_X9_234 : fr_mv RX9 234 yX9_sixteenthsTonight cX9_sixteenthsTonight 6 (some .int) 4 := ⟨(fr_gw3 60 rfl rfl), (fr_gw3 62 rfl rfl), (fr_gwP 10 rfl rfl), (fr_gw1 1 rfl rfl), (fr_gw3 63 rfl rfl), by decide, by decide, by decide +kernel⟩
theorem fo_X6_24 : fr_fo RX6 24 6 4 := ⟨RX6, TX6, 5, rfl, by decide, iw_X6, (fr_gw1 196 rfl rfl)⟩
theorem fo_X6_9 : fr_fo RX6 9 6 0 := ⟨RX6, TX6, 5, rfl, by decide, iw_X6, (fr_gw1 191 rfl rfl)⟩
theorem fo_X6_15 : fr_fo RX6 15 6 1 := ⟨RX6, TX6, 5, rfl, by decide, iw_X6, (fr_gw1 192 rfl rfl)⟩
theorem mo_X6_43 : fr_mx RX6 43 Lib.Math.max.name Lib.Math.max.code := ⟨(fr_gw3 92 rfl rfl), (fr_gw3 46 rfl rfl), (fr_gw1 13 rfl rfl), (fr_gw3 47 rfl rfl)⟩
theorem fo_X6_21 : fr_fo RX6 21 6 3 := ⟨RX6, TX6, 5, rfl, by decide, iw_X6, (fr_gw1 195 rfl rfl)⟩
theorem mo_X6_39 : fr_mv RX6 39 yX6_lateWith cX6_lateWith 4 (some .int) 3 := ⟨(fr_gw3 88 rfl rfl), (fr_gw3 90 rfl rfl), (fr_gwP 14 rfl rfl), (fr_gw1 10 rfl rfl), (fr_gw3 91 rfl rfl), by decide, by decide, by decide +kernel⟩
theorem mo_X6_31 : fr_mv RX6 31 yX6_spentOn cX6_spentOn 4 (some .int) 1 := ⟨(fr_gw3 80 rfl rfl), (fr_gw3 82 rfl rfl), (fr_gwP 12 rfl rfl), (fr_gw1 10 rfl rfl), (fr_gw3 83 rfl rfl), by decide, by decide, by decide +kernel⟩
theorem mo_X6_35 : fr_mv RX6 35 yX6_bestNext cX6_bestNext 7 (some .int) 2 := ⟨(fr_gw3 84 rfl rfl), (fr_gw3 86 rfl rfl), (fr_gwP 13 rfl rfl), (fr_gw1 10 rfl rfl), (fr_gw3 87 rfl rfl), by decide, by decide, by decide +kernel⟩
theorem fo_X6_18 : fr_fo RX6 18 6 2 := ⟨RX6, TX6, 5, rfl, by decide, iw_X6, (fr_gw1 193 rfl rfl)⟩
theorem fp_X6_24 : fr_fp RX6 24 6 4 .int := ⟨RX6, TX6, 5, tyX6, rfl, by decide, iw_X6, (fr_gw1 196 rfl rfl), tyX6_ok, nmX6, rfl, by decide +kernel⟩
theorem mo_X6_28 : fr_mv RX6 28 yX6_plan cX6_plan 4 none 0 := ⟨(fr_gw3 76 rfl rfl), (fr_gw3 78 rfl rfl), (fr_gwP 11 rfl rfl), (fr_gw1 10 rfl rfl), (fr_gw3 79 rfl rfl), by decide, by decide, by decide +kernel⟩
theorem fo_X9_54 : fr_fo RX9 54 9 6 := ⟨RX9, TX9, 10, rfl, by decide, iw_X9, (fr_gw1 235 rfl rfl)⟩
theorem fo_X9_238 : fr_fo RX9 238 6 4 := ⟨RX6, TX6, 5, rfl, by decide, iw_X6, (fr_gw1 197 rfl rfl)⟩
theorem mo_X9_239 : fr_mv RX9 239 yX6_append cX6_append 3 none 2 := ⟨(fr_gw3 72 rfl rfl), (fr_gw3 73 rfl rfl), (fr_gw3 74 rfl rfl), (fr_gw1 10 rfl rfl), (fr_gw3 75 rfl rfl), by decide, by decide, by decide +kernel⟩
theorem mo_X9_240 : fr_mv RX9 240 yX6_removeLast cX6_removeLast 1 none 0 := ⟨(fr_gw3 97 rfl rfl), (fr_gw3 98 rfl rfl), (fr_gw3 99 rfl rfl), (fr_gw1 10 rfl rfl), (fr_gw3 100 rfl rfl), by decide, by decide, by decide +kernel⟩
theorem fo_X9_246 : fr_fo RX9 246 6 2 := ⟨RX6, TX6, 5, rfl, by decide, iw_X6, (fr_gw1 194 rfl rfl)⟩
theorem mo_X9_243 : fr_mv RX9 243 yX6_leastLate cX6_leastLate 1 (some .int) 0 := ⟨(fr_gw3 105 rfl rfl), (fr_gw3 106 rfl rfl), (fr_gw3 107 rfl rfl), (fr_gw1 10 rfl rfl), (fr_gw3 108 rfl rfl), by decide, by decide, by decide +kernel⟩
theorem mo_X9_249 : fr_mv RX9 249 yX2_stepsUp cX2_stepsUp 5 (some .boolean) 1 := ⟨(fr_gw3 113 rfl rfl), (fr_gw3 114 rfl rfl), (fr_gw3 115 rfl rfl), (fr_gw1 2 rfl rfl), (fr_gw3 116 rfl rfl), by decide, by decide, by decide +kernel⟩
theorem mo_X9_252 : fr_mv RX9 252 yX9_risk cX9_risk 2 (some .int) 1 := ⟨(fr_gw3 121 rfl rfl), (fr_gw2 212 rfl rfl), (fr_gw2 213 rfl rfl), (fr_gw1 1 rfl rfl), (fr_gw2 214 rfl rfl), by decide, by decide, by decide +kernel⟩
theorem fo_X5_9 : fr_fo RX5 9 5 0 := ⟨RX5, TX5, 3, rfl, by decide, iw_X5, (fr_gw1 216 rfl rfl)⟩
theorem mo_X5_22 : fr_ms RX5 22 yJ7_fill_53178 cJ7_fill_53178 4 none 2 := ⟨(fr_gw3 133 rfl rfl), (fr_gw1 49 rfl rfl), (fr_gw1 4 rfl rfl), (fr_gw1 50 rfl rfl), by decide, by decide, by decide +kernel⟩
theorem fp_X5_15 : fr_fp RX5 15 5 1 .int := ⟨RX5, TX5, 3, tyX5, rfl, by decide, iw_X5, (fr_gw1 218 rfl rfl), tyX5_ok, nmX5, rfl, by decide +kernel⟩
theorem fp_X5_19 : fr_fp RX5 19 5 2 .int := ⟨RX5, TX5, 3, tyX5, rfl, by decide, iw_X5, (fr_gw1 220 rfl rfl), tyX5_ok, nmX5, rfl, by decide +kernel⟩
theorem mo_X9_255 : fr_ms RX9 255 yX9_isForm cX9_isForm 1 (some .boolean) 1 := ⟨(fr_gw3 126 rfl rfl), (fr_gw3 127 rfl rfl), (fr_gw1 1 rfl rfl), (fr_gw3 128 rfl rfl), by decide, by decide, by decide +kernel⟩
theorem mo_X9_258 : fr_mv RX9 258 yX5_renew cX5_renew 3 none 2 := ⟨(fr_gw3 129 rfl rfl), (fr_gw3 130 rfl rfl), (fr_gw3 131 rfl rfl), (fr_gw1 11 rfl rfl), (fr_gw3 132 rfl rfl), by decide, by decide, by decide +kernel⟩
theorem fp_X9_261 : fr_fp RX9 261 5 1 .int := ⟨RX5, TX5, 3, tyX5, rfl, by decide, iw_X5, (fr_gw1 219 rfl rfl), tyX5_ok, nmX5, rfl, by decide +kernel⟩
theorem mo_X5_28 : fr_mv RX5 28 yX5_isLost cX5_isLost 1 (some .boolean) 0 := ⟨(fr_gw3 146 rfl rfl), (fr_gw2 126 rfl rfl), (fr_gw2 127 rfl rfl), (fr_gw1 11 rfl rfl), (fr_gw2 128 rfl rfl), by decide, by decide, by decide +kernel⟩
theorem fo_X5_19 : fr_fo RX5 19 5 2 := ⟨RX5, TX5, 3, rfl, by decide, iw_X5, (fr_gw1 220 rfl rfl)⟩
theorem mo_X5_32 : fr_mn RX5 32 yX9_within "FrostHole" cX9_within 3 (some .boolean) 3 := ⟨List.mem_of_getElem? (i := 16) rfl, (fr_gw2 28 rfl rfl), (fr_gw1 1 rfl rfl), (fr_gw2 29 rfl rfl), by decide, by decide, by decide +kernel⟩
theorem mo_X9_264 : fr_mv RX9 264 yX5_hindrance cX5_hindrance 3 (some .int) 2 := ⟨(fr_gw3 142 rfl rfl), (fr_gw3 143 rfl rfl), (fr_gw3 144 rfl rfl), (fr_gw1 11 rfl rfl), (fr_gw3 145 rfl rfl), by decide, by decide, by decide +kernel⟩
theorem mo_X9_267 : fr_mv RX9 267 yX5_put cX5_put 3 none 2 := ⟨(fr_gw3 148 rfl rfl), (fr_gw3 149 rfl rfl), (fr_gw3 150 rfl rfl), (fr_gw1 11 rfl rfl), (fr_gw3 151 rfl rfl), by decide, by decide, by decide +kernel⟩
theorem cl_X9_269 : Cond.constant RX9 269 (-2147483648) ∈ fr_gw := (fr_gw3 156 rfl rfl)
theorem fo_X9_261 : fr_fo RX9 261 5 1 := ⟨RX5, TX5, 3, rfl, by decide, iw_X5, (fr_gw1 219 rfl rfl)⟩
theorem mo_X9_270 : fr_mv RX9 270 yX5_hasRun cX5_hasRun 3 (some .boolean) 2 := ⟨(fr_gw3 161 rfl rfl), (fr_gw3 162 rfl rfl), (fr_gw3 163 rfl rfl), (fr_gw1 11 rfl rfl), (fr_gw3 164 rfl rfl), by decide, by decide, by decide +kernel⟩
theorem mo_X9_273 : fr_mc RX9 273 := ⟨(fr_gw3 165 rfl rfl), (fr_gw2 162 rfl rfl), (fr_gw2 161 rfl rfl), (fr_gw1 14 rfl rfl)⟩
theorem fo_X9_290 : fr_fo RX9 290 2 4 := ⟨RX2, TX2, 6, rfl, by decide, iw_X2, (fr_gw1 61 rfl rfl)⟩
theorem fo_X9_68 : fr_fo RX9 68 9 9 := ⟨RX9, TX9, 10, rfl, by decide, iw_X9, (fr_gw1 238 rfl rfl)⟩
theorem cl_X9_349 : Cond.constantLong RX9 349 31 ∈ fr_gw := (fr_gw3 183 rfl rfl)
theorem mo_X9_330 : fr_mv RX9 330 yX9_left cX9_left 2 (some .int) 1 := ⟨(fr_gw3 191 rfl rfl), (fr_gw2 208 rfl rfl), (fr_gw2 209 rfl rfl), (fr_gw1 1 rfl rfl), (fr_gw2 210 rfl rfl), by decide, by decide, by decide +kernel⟩
theorem mo_X9_296 : fr_ms RX9 296 yX9_mixed cX9_mixed 4 (some .long) 2 := ⟨(fr_gw3 180 rfl rfl), (fr_gw3 181 rfl rfl), (fr_gw1 1 rfl rfl), (fr_gw3 182 rfl rfl), by decide, by decide, by decide +kernel⟩
theorem mo_X9_333 : fr_mv RX9 333 yX9_all cX9_all 2 (some .int) 1 := ⟨(fr_gw3 192 rfl rfl), (fr_gw2 230 rfl rfl), (fr_gw2 231 rfl rfl), (fr_gw1 1 rfl rfl), (fr_gw2 232 rfl rfl), by decide, by decide, by decide +kernel⟩
theorem mo_X9_336 : fr_mv RX9 336 yX9_first cX9_first 4 (some .int) 2 := ⟨(fr_gw3 193 rfl rfl), (fr_gw2 234 rfl rfl), (fr_gw2 235 rfl rfl), (fr_gw1 1 rfl rfl), (fr_gw2 236 rfl rfl), by decide, by decide, by decide +kernel⟩
theorem mo_X9_339 : fr_mv RX9 339 yX9_stop cX9_stop 8 (some .int) 4 := ⟨(fr_gw3 194 rfl rfl), (fr_gw2 238 rfl rfl), (fr_gw2 239 rfl rfl), (fr_gw1 1 rfl rfl), (fr_gw3 0 rfl rfl), by decide, by decide, by decide +kernel⟩
theorem mo_X9_342 : fr_mv RX9 342 yX9_warm cX9_warm 4 (some .int) 3 := ⟨(fr_gw3 195 rfl rfl), (fr_gw3 14 rfl rfl), (fr_gw3 15 rfl rfl), (fr_gw1 1 rfl rfl), (fr_gw3 16 rfl rfl), by decide, by decide, by decide +kernel⟩
theorem mo_X9_345 : fr_mv RX9 345 yX9_tonight cX9_tonight 9 (some .long) 5 := ⟨(fr_gw3 196 rfl rfl), (fr_gw3 56 rfl rfl), (fr_gw3 57 rfl rfl), (fr_gw1 1 rfl rfl), (fr_gw3 58 rfl rfl), by decide, by decide, by decide +kernel⟩
theorem cl_X9_291 : Cond.constantLong RX9 291 17 ∈ fr_gw := (fr_gw3 178 rfl rfl)
theorem mo_X9_293 : fr_mv RX9 293 yX9_count cX9_count 2 (some .int) 1 := ⟨(fr_gw3 179 rfl rfl), (fr_gw3 171 rfl rfl), (fr_gw3 172 rfl rfl), (fr_gw1 1 rfl rfl), (fr_gw3 173 rfl rfl), by decide, by decide, by decide +kernel⟩
theorem mo_X9_300 : fr_mv RX9 300 yX9_fault cX9_fault 2 (some .int) 1 := ⟨(fr_gw3 184 rfl rfl), (fr_gw2 89 rfl rfl), (fr_gw2 90 rfl rfl), (fr_gw1 1 rfl rfl), (fr_gw2 91 rfl rfl), by decide, by decide, by decide +kernel⟩
theorem mo_X9_302 : fr_mv RX9 302 yX9_judged cX9_judged 1 (some .int) 0 := ⟨(fr_gw3 185 rfl rfl), (fr_gw2 149 rfl rfl), (fr_gw2 150 rfl rfl), (fr_gw1 1 rfl rfl), (fr_gw2 151 rfl rfl), by decide, by decide, by decide +kernel⟩
theorem mo_X9_305 : fr_mv RX9 305 yX9_state cX9_state 3 (some .int) 2 := ⟨(fr_gw3 186 rfl rfl), (fr_gw2 192 rfl rfl), (fr_gw2 193 rfl rfl), (fr_gw1 1 rfl rfl), (fr_gw2 194 rfl rfl), by decide, by decide, by decide +kernel⟩
theorem mo_X9_308 : fr_mv RX9 308 yX9_mixedWithTool cX9_mixedWithTool 7 (some .long) 2 := ⟨(fr_gw3 187 rfl rfl), (fr_gw3 189 rfl rfl), (fr_gwP 15 rfl rfl), (fr_gw1 1 rfl rfl), (fr_gw3 190 rfl rfl), by decide, by decide, by decide +kernel⟩
theorem mo_X9_312 : fr_mv RX9 312 yX9_bend cX9_bend 4 (some .int) 3 := ⟨(fr_gw3 197 rfl rfl), (fr_gw3 118 rfl rfl), (fr_gw3 119 rfl rfl), (fr_gw1 1 rfl rfl), (fr_gw3 120 rfl rfl), by decide, by decide, by decide +kernel⟩
theorem mo_X9_315 : fr_mv RX9 315 yX9_melts cX9_melts 4 (some .int) 3 := ⟨(fr_gw3 198 rfl rfl), (fr_gw3 33 rfl rfl), (fr_gw3 34 rfl rfl), (fr_gw1 1 rfl rfl), (fr_gw3 35 rfl rfl), by decide, by decide, by decide +kernel⟩
theorem mo_X9_318 : fr_mv RX9 318 yX9_again cX9_again 9 (some .int) 4 := ⟨(fr_gw3 199 rfl rfl), (fr_gw3 42 rfl rfl), (fr_gw3 43 rfl rfl), (fr_gw1 1 rfl rfl), (fr_gw3 44 rfl rfl), by decide, by decide, by decide +kernel⟩
theorem mo_X9_321 : fr_mv RX9 321 yX9_cover cX9_cover 6 (some .int) 4 := ⟨(fr_gw3 200 rfl rfl), (fr_gw3 65 rfl rfl), (fr_gw3 66 rfl rfl), (fr_gw1 1 rfl rfl), (fr_gw3 67 rfl rfl), by decide, by decide, by decide +kernel⟩
theorem mo_X9_324 : fr_mv RX9 324 yX9_lent cX9_lent 2 (some .int) 1 := ⟨(fr_gw3 201 rfl rfl), (fr_gw3 102 rfl rfl), (fr_gw3 103 rfl rfl), (fr_gw1 1 rfl rfl), (fr_gw3 104 rfl rfl), by decide, by decide, by decide +kernel⟩
theorem mo_X9_327 : fr_mv RX9 327 yX9_faced cX9_faced 1 (some .int) 0 := ⟨(fr_gw3 202 rfl rfl), (fr_gw3 110 rfl rfl), (fr_gw3 111 rfl rfl), (fr_gw1 1 rfl rfl), (fr_gw3 112 rfl rfl), by decide, by decide, by decide +kernel⟩
theorem mo_X10_73 : fr_ms RX10 73 yX10_in cX10_in 6 (some .boolean) 3 := ⟨(fr_gw4 72 rfl rfl), (fr_gw4 73 rfl rfl), (fr_gw1 12 rfl rfl), (fr_gw4 74 rfl rfl), by decide, by decide, by decide +kernel⟩
theorem mo_X10_102 : fr_ms RX10 102 yX10_isTwo cX10_isTwo 1 (some .boolean) 1 := ⟨(fr_gw4 108 rfl rfl), (fr_gw4 109 rfl rfl), (fr_gw1 12 rfl rfl), (fr_gw4 110 rfl rfl), by decide, by decide, by decide +kernel⟩
theorem cl_X10_105 : Cond.constantLong RX10 105 255 ∈ fr_gw := (fr_gw4 111 rfl rfl)
theorem fo_X10_25 : fr_fo RX10 25 10 6 := ⟨RX10, TX10, 31, rfl, by decide, iw_X10, (fr_gw3 215 rfl rfl)⟩
theorem fo_X10_22 : fr_fo RX10 22 10 5 := ⟨RX10, TX10, 31, rfl, by decide, iw_X10, (fr_gw3 214 rfl rfl)⟩
theorem fo_X10_28 : fr_fo RX10 28 10 8 := ⟨RX10, TX10, 31, rfl, by decide, iw_X10, (fr_gw3 217 rfl rfl)⟩
theorem fo_X10_32 : fr_fo RX10 32 10 9 := ⟨RX10, TX10, 31, rfl, by decide, iw_X10, (fr_gw3 218 rfl rfl)⟩
theorem fp_X10_107 : fr_fp RX10 107 10 11 .int := ⟨RX10, TX10, 31, tyX10, rfl, by decide, iw_X10, (fr_gw3 220 rfl rfl), tyX10_ok, nmX10, rfl, by decide +kernel⟩
theorem fp_X10_110 : fr_fp RX10 110 10 12 .int := ⟨RX10, TX10, 31, tyX10, rfl, by decide, iw_X10, (fr_gw3 221 rfl rfl), tyX10_ok, nmX10, rfl, by decide +kernel⟩
theorem fp_X10_113 : fr_fp RX10 113 10 13 .int := ⟨RX10, TX10, 31, tyX10, rfl, by decide, iw_X10, (fr_gw3 222 rfl rfl), tyX10_ok, nmX10, rfl, by decide +kernel⟩
theorem fo_X10_113 : fr_fo RX10 113 10 13 := ⟨RX10, TX10, 31, rfl, by decide, iw_X10, (fr_gw3 222 rfl rfl)⟩
theorem fo_X10_110 : fr_fo RX10 110 10 12 := ⟨RX10, TX10, 31, rfl, by decide, iw_X10, (fr_gw3 221 rfl rfl)⟩
theorem fo_X10_116 : fr_fo RX10 116 10 7 := ⟨RX10, TX10, 31, rfl, by decide, iw_X10, (fr_gw3 216 rfl rfl)⟩
theorem cl_X10_119 : Cond.constantLong RX10 119 9 ∈ fr_gw := (fr_gw4 136 rfl rfl)
theorem fo_X10_107 : fr_fo RX10 107 10 11 := ⟨RX10, TX10, 31, rfl, by decide, iw_X10, (fr_gw3 220 rfl rfl)⟩
theorem fp_X10_116 : fr_fp RX10 116 10 7 .int := ⟨RX10, TX10, 31, tyX10, rfl, by decide, iw_X10, (fr_gw3 216 rfl rfl), tyX10_ok, nmX10, rfl, by decide +kernel⟩
theorem mo_X10_121 : fr_mv RX10 121 yX10_clears cX10_clears 2 none 0 := ⟨(fr_gw4 128 rfl rfl), (fr_gw4 130 rfl rfl), (fr_gwP 19 rfl rfl), (fr_gw1 12 rfl rfl), (fr_gw4 131 rfl rfl), by decide, by decide, by decide +kernel⟩
theorem mo_X10_124 : fr_mv RX10 124 yX10_readsRow cX10_readsRow 4 (some .boolean) 0 := ⟨(fr_gw4 132 rfl rfl), (fr_gw4 134 rfl rfl), (fr_gwP 20 rfl rfl), (fr_gw1 12 rfl rfl), (fr_gw4 135 rfl rfl), by decide, by decide, by decide +kernel⟩
theorem fp_X10_128 : fr_fp RX10 128 10 14 .int := ⟨RX10, TX10, 31, tyX10, rfl, by decide, iw_X10, (fr_gw3 223 rfl rfl), tyX10_ok, nmX10, rfl, by decide +kernel⟩
theorem mo_X10_131 : fr_ms RX10 131 yX10_kindOf cX10_kindOf 1 (some .int) 1 := ⟨(fr_gw4 141 rfl rfl), (fr_gw4 142 rfl rfl), (fr_gw1 12 rfl rfl), (fr_gw4 143 rfl rfl), by decide, by decide, by decide +kernel⟩
theorem fo_X10_38 : fr_fo RX10 38 10 15 := ⟨RX10, TX10, 31, rfl, by decide, iw_X10, (fr_gw3 224 rfl rfl)⟩
theorem fo_X10_128 : fr_fo RX10 128 10 14 := ⟨RX10, TX10, 31, rfl, by decide, iw_X10, (fr_gw3 223 rfl rfl)⟩
theorem mo_X10_138 : fr_mv RX10 138 yX10_readsRoad cX10_readsRoad 3 (some .int) 0 := ⟨(fr_gw4 137 rfl rfl), (fr_gw4 139 rfl rfl), (fr_gwP 21 rfl rfl), (fr_gw1 12 rfl rfl), (fr_gw4 140 rfl rfl), by decide, by decide, by decide +kernel⟩
theorem mo_X10_134 : fr_mv RX10 134 yX10_readsPane cX10_readsPane 2 (some .int) 0 := ⟨(fr_gw4 124 rfl rfl), (fr_gw4 126 rfl rfl), (fr_gwP 18 rfl rfl), (fr_gw1 12 rfl rfl), (fr_gw4 127 rfl rfl), by decide, by decide, by decide +kernel⟩
theorem cl_X10_81 : Cond.constantLong RX10 81 3 ∈ fr_gw := (fr_gw4 71 rfl rfl)
theorem mo_X10_143 : fr_ms RX10 143 yX10_isTool cX10_isTool 1 (some .boolean) 1 := ⟨(fr_gw4 148 rfl rfl), (fr_gw4 149 rfl rfl), (fr_gw1 12 rfl rfl), (fr_gw4 150 rfl rfl), by decide, by decide, by decide +kernel⟩
theorem cl_X10_148 : Cond.constantLong RX10 148 99 ∈ fr_gw := (fr_gw4 152 rfl rfl)
theorem cl_X10_146 : Cond.constantLong RX10 146 60 ∈ fr_gw := (fr_gw4 151 rfl rfl)
theorem fo_X10_44 : fr_fo RX10 44 10 17 := ⟨RX10, TX10, 31, rfl, by decide, iw_X10, (fr_gw3 226 rfl rfl)⟩
theorem fo_X10_41 : fr_fo RX10 41 10 16 := ⟨RX10, TX10, 31, rfl, by decide, iw_X10, (fr_gw3 225 rfl rfl)⟩
theorem cl_X10_141 : Cond.constantLong RX10 141 31 ∈ fr_gw := (fr_gw4 161 rfl rfl)
theorem cl_X10_150 : Cond.constantLong RX10 150 4 ∈ fr_gw := (fr_gw4 157 rfl rfl)
theorem mo_X10_152 : fr_ms RX10 152 yX10_isAnyCell cX10_isAnyCell 1 (some .boolean) 1 := ⟨(fr_gw4 158 rfl rfl), (fr_gw4 159 rfl rfl), (fr_gw1 12 rfl rfl), (fr_gw4 160 rfl rfl), by decide, by decide, by decide +kernel⟩
theorem fo_X10_47 : fr_fo RX10 47 10 18 := ⟨RX10, TX10, 31, rfl, by decide, iw_X10, (fr_gw3 227 rfl rfl)⟩
theorem fp_X10_77 : fr_fp RX10 77 10 4 .int := ⟨RX10, TX10, 31, tyX10, rfl, by decide, iw_X10, (fr_gw3 213 rfl rfl), tyX10_ok, nmX10, rfl, by decide +kernel⟩
theorem mo_X10_83 : fr_ms RX10 83 yX10_isSheet cX10_isSheet 1 (some .boolean) 1 := ⟨(fr_gw4 68 rfl rfl), (fr_gw4 69 rfl rfl), (fr_gw1 12 rfl rfl), (fr_gw4 70 rfl rfl), by decide, by decide, by decide +kernel⟩
theorem fo_X10_7 : fr_fo RX10 7 10 0 := ⟨RX10, TX10, 31, rfl, by decide, iw_X10, (fr_gw3 209 rfl rfl)⟩
theorem fo_X10_13 : fr_fo RX10 13 10 1 := ⟨RX10, TX10, 31, rfl, by decide, iw_X10, (fr_gw3 210 rfl rfl)⟩
theorem fo_X10_16 : fr_fo RX10 16 10 2 := ⟨RX10, TX10, 31, rfl, by decide, iw_X10, (fr_gw3 211 rfl rfl)⟩
theorem mo_X10_155 : fr_mv RX10 155 yX10_looks cX10_looks 5 (some .int) 3 := ⟨(fr_gw4 166 rfl rfl), (fr_gw4 154 rfl rfl), (fr_gw4 155 rfl rfl), (fr_gw1 12 rfl rfl), (fr_gw4 156 rfl rfl), by decide, by decide, by decide +kernel⟩
theorem mo_X10_89 : fr_mv RX10 89 yX10_met cX10_met 2 (some .int) 1 := ⟨(fr_gw4 76 rfl rfl), (fr_gw4 78 rfl rfl), (fr_gwP 16 rfl rfl), (fr_gw1 12 rfl rfl), (fr_gw4 79 rfl rfl), by decide, by decide, by decide +kernel⟩
theorem fo_X10_158 : fr_fo RX10 158 10 19 := ⟨RX10, TX10, 31, rfl, by decide, iw_X10, (fr_gw3 228 rfl rfl)⟩
theorem fo_X10_50 : fr_fo RX10 50 10 20 := ⟨RX10, TX10, 31, rfl, by decide, iw_X10, (fr_gw3 229 rfl rfl)⟩
theorem fp_X10_158 : fr_fp RX10 158 10 19 .int := ⟨RX10, TX10, 31, tyX10, rfl, by decide, iw_X10, (fr_gw3 228 rfl rfl), tyX10_ok, nmX10, rfl, by decide +kernel⟩
theorem fo_X10_35 : fr_fo RX10 35 10 10 := ⟨RX10, TX10, 31, rfl, by decide, iw_X10, (fr_gw3 219 rfl rfl)⟩
theorem fo_X10_53 : fr_fo RX10 53 10 21 := ⟨RX10, TX10, 31, rfl, by decide, iw_X10, (fr_gw3 230 rfl rfl)⟩
theorem fp_X10_161 : fr_fp RX10 161 10 22 .int := ⟨RX10, TX10, 31, tyX10, rfl, by decide, iw_X10, (fr_gw3 231 rfl rfl), tyX10_ok, nmX10, rfl, by decide +kernel⟩
theorem fp_X10_164 : fr_fp RX10 164 10 23 .int := ⟨RX10, TX10, 31, tyX10, rfl, by decide, iw_X10, (fr_gw3 232 rfl rfl), tyX10_ok, nmX10, rfl, by decide +kernel⟩
theorem fp_X10_167 : fr_fp RX10 167 10 24 .int := ⟨RX10, TX10, 31, tyX10, rfl, by decide, iw_X10, (fr_gw3 233 rfl rfl), tyX10_ok, nmX10, rfl, by decide +kernel⟩
theorem fo_X10_167 : fr_fo RX10 167 10 24 := ⟨RX10, TX10, 31, rfl, by decide, iw_X10, (fr_gw3 233 rfl rfl)⟩
theorem fo_X10_161 : fr_fo RX10 161 10 22 := ⟨RX10, TX10, 31, rfl, by decide, iw_X10, (fr_gw3 231 rfl rfl)⟩
theorem fo_X10_164 : fr_fo RX10 164 10 23 := ⟨RX10, TX10, 31, rfl, by decide, iw_X10, (fr_gw3 232 rfl rfl)⟩
theorem mo_X10_170 : fr_mv RX10 170 yX10_scrapes cX10_scrapes 5 none 1 := ⟨(fr_gw4 183 rfl rfl), (fr_gw4 185 rfl rfl), (fr_gwP 23 rfl rfl), (fr_gw1 12 rfl rfl), (fr_gw4 186 rfl rfl), by decide, by decide, by decide +kernel⟩
theorem mo_X10_174 : fr_mv RX10 174 yX10_scrapesAll cX10_scrapesAll 1 none 0 := ⟨(fr_gw4 179 rfl rfl), (fr_gw4 181 rfl rfl), (fr_gwP 22 rfl rfl), (fr_gw1 12 rfl rfl), (fr_gw4 182 rfl rfl), by decide, by decide, by decide +kernel⟩
theorem mo_X10_177 : fr_mv RX10 177 yX10_riskOf cX10_riskOf 4 (some .int) 1 := ⟨(fr_gw4 203 rfl rfl), (fr_gw4 205 rfl rfl), (fr_gwP 26 rfl rfl), (fr_gw1 12 rfl rfl), (fr_gw4 206 rfl rfl), by decide, by decide, by decide +kernel⟩
theorem mo_X10_183 : fr_mv RX10 183 yX10_clear cX10_clear 3 (some .int) 0 := ⟨(fr_gw4 207 rfl rfl), (fr_gw4 209 rfl rfl), (fr_gwP 27 rfl rfl), (fr_gw1 12 rfl rfl), (fr_gw4 210 rfl rfl), by decide, by decide, by decide +kernel⟩
theorem mo_X10_180 : fr_mv RX10 180 yX10_riskOfRoad cX10_riskOfRoad 3 (some .int) 0 := ⟨(fr_gw4 199 rfl rfl), (fr_gw4 201 rfl rfl), (fr_gwP 25 rfl rfl), (fr_gw1 12 rfl rfl), (fr_gw4 202 rfl rfl), by decide, by decide, by decide +kernel⟩
theorem cl_X10_87 : Cond.constantLong RX10 87 2 ∈ fr_gw := (fr_gw4 75 rfl rfl)
theorem mo_X10_186 : fr_mv RX10 186 yX10_stateOf cX10_stateOf 3 (some .int) 2 := ⟨(fr_gw4 195 rfl rfl), (fr_gw4 197 rfl rfl), (fr_gwP 24 rfl rfl), (fr_gw1 12 rfl rfl), (fr_gw4 198 rfl rfl), by decide, by decide, by decide +kernel⟩
theorem mo_X10_189 : fr_mv RX10 189 yX10_allOf cX10_allOf 4 (some .int) 1 := ⟨(fr_gw4 223 rfl rfl), (fr_gw4 225 rfl rfl), (fr_gwP 28 rfl rfl), (fr_gw1 12 rfl rfl), (fr_gw4 226 rfl rfl), by decide, by decide, by decide +kernel⟩
theorem fo_X10_59 : fr_fo RX10 59 10 26 := ⟨RX10, TX10, 31, rfl, by decide, iw_X10, (fr_gw3 235 rfl rfl)⟩
theorem mo_X10_192 : fr_mv RX10 192 yX10_findParts cX10_findParts 3 none 0 := ⟨(fr_gw5 0 rfl rfl), (fr_gw5 2 rfl rfl), (fr_gwP 31 rfl rfl), (fr_gw1 12 rfl rfl), (fr_gw5 3 rfl rfl), by decide, by decide, by decide +kernel⟩
theorem mo_X10_195 : fr_ms RX10 195 yX10_isIn cX10_isIn 2 (some .boolean) 2 := ⟨(fr_gw5 4 rfl rfl), (fr_gw5 5 rfl rfl), (fr_gw1 12 rfl rfl), (fr_gw5 6 rfl rfl), by decide, by decide, by decide +kernel⟩
theorem fo_X10_56 : fr_fo RX10 56 10 25 := ⟨RX10, TX10, 31, rfl, by decide, iw_X10, (fr_gw3 234 rfl rfl)⟩
theorem mo_X10_199 : fr_mv RX10 199 yX10_findFirst cX10_findFirst 9 (some .int) 1 := ⟨(fr_gw4 236 rfl rfl), (fr_gw4 238 rfl rfl), (fr_gwP 30 rfl rfl), (fr_gw1 12 rfl rfl), (fr_gw4 239 rfl rfl), by decide, by decide, by decide +kernel⟩
theorem cl_X10_202 : Cond.constantLong RX10 202 (-1) ∈ fr_gw := (fr_gw4 231 rfl rfl)
theorem mo_X10_204 : fr_mv RX10 204 yX10_firstOf cX10_firstOf 4 (some .int) 2 := ⟨(fr_gw4 232 rfl rfl), (fr_gw4 234 rfl rfl), (fr_gwP 29 rfl rfl), (fr_gw1 12 rfl rfl), (fr_gw4 235 rfl rfl), by decide, by decide, by decide +kernel⟩
theorem mo_X10_207 : fr_ms RX10 207 yX10_lesser cX10_lesser 2 (some .int) 2 := ⟨(fr_gw5 15 rfl rfl), (fr_gw5 16 rfl rfl), (fr_gw1 12 rfl rfl), (fr_gw5 17 rfl rfl), by decide, by decide, by decide +kernel⟩
theorem mo_X10_210 : fr_mv RX10 210 yX10_stopOf cX10_stopOf 12 (some .int) 4 := ⟨(fr_gw5 11 rfl rfl), (fr_gw5 13 rfl rfl), (fr_gwP 32 rfl rfl), (fr_gw1 12 rfl rfl), (fr_gw5 14 rfl rfl), by decide, by decide, by decide +kernel⟩
theorem mo_X10_214 : fr_mv RX10 214 yX10_thickest cX10_thickest 7 (some .int) 3 := ⟨(fr_gw5 26 rfl rfl), (fr_gw5 28 rfl rfl), (fr_gwP 34 rfl rfl), (fr_gw1 12 rfl rfl), (fr_gw5 29 rfl rfl), by decide, by decide, by decide +kernel⟩
theorem mo_X10_217 : fr_mv RX10 217 yX10_warmOf cX10_warmOf 9 (some .int) 3 := ⟨(fr_gw5 22 rfl rfl), (fr_gw5 24 rfl rfl), (fr_gwP 33 rfl rfl), (fr_gw1 12 rfl rfl), (fr_gw5 25 rfl rfl), by decide, by decide, by decide +kernel⟩
theorem cl_X10_220 : Cond.constantLong RX10 220 30 ∈ fr_gw := (fr_gw5 34 rfl rfl)
theorem mo_X10_222 : fr_mv RX10 222 yX10_meltsOf cX10_meltsOf 10 (some .int) 2 := ⟨(fr_gw5 39 rfl rfl), (fr_gw5 41 rfl rfl), (fr_gwP 35 rfl rfl), (fr_gw1 12 rfl rfl), (fr_gw5 42 rfl rfl), by decide, by decide, by decide +kernel⟩
theorem mo_X10_225 : fr_ms RX10 225 yX10_greater cX10_greater 2 (some .int) 2 := ⟨(fr_gw5 51 rfl rfl), (fr_gw5 52 rfl rfl), (fr_gw1 12 rfl rfl), (fr_gw5 53 rfl rfl), by decide, by decide, by decide +kernel⟩
theorem cl_X10_228 : Cond.constantLong RX10 228 5 ∈ fr_gw := (fr_gw5 47 rfl rfl)
theorem mo_X10_230 : fr_ms RX10 230 yX10_againOf cX10_againOf 8 (some .int) 4 := ⟨(fr_gw5 48 rfl rfl), (fr_gw5 49 rfl rfl), (fr_gw1 12 rfl rfl), (fr_gw5 50 rfl rfl), by decide, by decide, by decide +kernel⟩
theorem mo_X10_233 : fr_ms RX10 233 yX10_isNight cX10_isNight 2 (some .boolean) 2 := ⟨(fr_gw5 58 rfl rfl), (fr_gw5 59 rfl rfl), (fr_gw1 12 rfl rfl), (fr_gw5 60 rfl rfl), by decide, by decide, by decide +kernel⟩
theorem mo_X10_236 : fr_ms RX10 236 yX10_nightOf cX10_nightOf 4 (some .int) 3 := ⟨(fr_gw5 61 rfl rfl), (fr_gw5 62 rfl rfl), (fr_gw1 12 rfl rfl), (fr_gw5 63 rfl rfl), by decide, by decide, by decide +kernel⟩
theorem cl_X10_71 : Cond.constantLong RX10 71 (-9223372036854775808) ∈ fr_gw := (fr_gw5 79 rfl rfl)
theorem cl_X10_239 : Cond.constantLong RX10 239 16 ∈ fr_gw := (fr_gw5 68 rfl rfl)
theorem mo_X10_248 : fr_ms RX10 248 yX10_no cX10_no 1 (some .long) 1 := ⟨(fr_gw5 76 rfl rfl), (fr_gw5 77 rfl rfl), (fr_gw1 12 rfl rfl), (fr_gw5 78 rfl rfl), by decide, by decide, by decide +kernel⟩
theorem mo_X10_241 : fr_mv RX10 241 yX10_tonightBy cX10_tonightBy 5 (some .int) 4 := ⟨(fr_gw5 69 rfl rfl), (fr_gw5 71 rfl rfl), (fr_gwP 36 rfl rfl), (fr_gw1 12 rfl rfl), (fr_gw5 72 rfl rfl), by decide, by decide, by decide +kernel⟩
theorem mo_X10_244 : fr_ms RX10 244 yX10_part cX10_part 11 (some .long) 3 := ⟨(fr_gw5 73 rfl rfl), (fr_gw5 74 rfl rfl), (fr_gw1 12 rfl rfl), (fr_gw5 75 rfl rfl), by decide, by decide, by decide +kernel⟩
theorem cl_X10_252 : Cond.constantLong RX10 252 9999 ∈ fr_gw := (fr_gw5 84 rfl rfl)
theorem fo_X10_254 : fr_fo RX10 254 10 27 := ⟨RX10, TX10, 31, rfl, by decide, iw_X10, (fr_gw3 236 rfl rfl)⟩
theorem fo_X10_62 : fr_fo RX10 62 10 28 := ⟨RX10, TX10, 31, rfl, by decide, iw_X10, (fr_gw3 237 rfl rfl)⟩
theorem fp_X10_254 : fr_fp RX10 254 10 27 .int := ⟨RX10, TX10, 31, tyX10, rfl, by decide, iw_X10, (fr_gw3 236 rfl rfl), tyX10_ok, nmX10, rfl, by decide +kernel⟩
theorem fo_X10_65 : fr_fo RX10 65 10 29 := ⟨RX10, TX10, 31, rfl, by decide, iw_X10, (fr_gw3 238 rfl rfl)⟩
theorem mo_X10_257 : fr_mv RX10 257 yX10_lays cX10_lays 5 none 1 := ⟨(fr_gw5 106 rfl rfl), (fr_gw5 108 rfl rfl), (fr_gwP 39 rfl rfl), (fr_gw1 12 rfl rfl), (fr_gw5 109 rfl rfl), by decide, by decide, by decide +kernel⟩
theorem mo_X10_260 : fr_mv RX10 260 yX10_late cX10_late 4 (some .int) 0 := ⟨(fr_gw5 110 rfl rfl), (fr_gw5 112 rfl rfl), (fr_gwP 40 rfl rfl), (fr_gw1 12 rfl rfl), (fr_gw5 113 rfl rfl), by decide, by decide, by decide +kernel⟩
theorem fo_X10_68 : fr_fo RX10 68 10 30 := ⟨RX10, TX10, 31, rfl, by decide, iw_X10, (fr_gw3 239 rfl rfl)⟩
theorem mo_X10_263 : fr_mv RX10 263 yX10_findRow cX10_findRow 6 (some .int) 0 := ⟨(fr_gw5 102 rfl rfl), (fr_gw5 104 rfl rfl), (fr_gwP 38 rfl rfl), (fr_gw1 12 rfl rfl), (fr_gw5 105 rfl rfl), by decide, by decide, by decide +kernel⟩
theorem cl_X10_266 : Cond.constantLong RX10 266 6 ∈ fr_gw := (fr_gw5 97 rfl rfl)
theorem mo_X10_268 : fr_mv RX10 268 yX10_lentOf cX10_lentOf 3 (some .int) 1 := ⟨(fr_gw5 98 rfl rfl), (fr_gw5 100 rfl rfl), (fr_gwP 37 rfl rfl), (fr_gw1 12 rfl rfl), (fr_gw5 101 rfl rfl), by decide, by decide, by decide +kernel⟩
theorem mo_X10_271 : fr_mv RX10 271 yX10_facedNow cX10_facedNow 6 (some .int) 0 := ⟨(fr_gw5 118 rfl rfl), (fr_gw5 120 rfl rfl), (fr_gwP 41 rfl rfl), (fr_gw1 12 rfl rfl), (fr_gw5 121 rfl rfl), by decide, by decide, by decide +kernel⟩
theorem cl_X10_274 : Cond.constantLong RX10 274 999 ∈ fr_gw := (fr_gw5 126 rfl rfl)
theorem mo_X10_276 : fr_mv RX10 276 yX10_bendOf cX10_bendOf 4 (some .int) 3 := ⟨(fr_gw5 127 rfl rfl), (fr_gw5 129 rfl rfl), (fr_gwP 42 rfl rfl), (fr_gw1 12 rfl rfl), (fr_gw5 130 rfl rfl), by decide, by decide, by decide +kernel⟩
theorem mo_X10_93 : fr_mv RX10 93 yX10_lacks cX10_lacks 4 (some .int) 3 := ⟨(fr_gw4 88 rfl rfl), (fr_gw4 90 rfl rfl), (fr_gwP 17 rfl rfl), (fr_gw1 12 rfl rfl), (fr_gw4 91 rfl rfl), by decide, by decide, by decide +kernel⟩
theorem mo_X10_97 : fr_ms RX10 97 yX10_cut cX10_cut 2 (some .int) 2 := ⟨(fr_gw4 92 rfl rfl), (fr_gw4 93 rfl rfl), (fr_gw1 12 rfl rfl), (fr_gw4 94 rfl rfl), by decide, by decide, by decide +kernel⟩
theorem cl_X10_101 : Cond.constant RX10 101 (-2147483648) ∈ fr_gw := (fr_gw4 99 rfl rfl)
theorem fo_X10_19 : fr_fo RX10 19 10 3 := ⟨RX10, TX10, 31, rfl, by decide, iw_X10, (fr_gw3 212 rfl rfl)⟩
theorem fo_X10_77 : fr_fo RX10 77 10 4 := ⟨RX10, TX10, 31, rfl, by decide, iw_X10, (fr_gw3 213 rfl rfl)⟩
theorem cl_X10_279 : Cond.constantLong RX10 279 17 ∈ fr_gw := (fr_gw5 143 rfl rfl)
theorem mo_X10_281 : fr_mv RX10 281 yX10_count cX10_count 4 (some .int) 1 := ⟨(fr_gw5 144 rfl rfl), (fr_gw5 136 rfl rfl), (fr_gw5 137 rfl rfl), (fr_gw1 12 rfl rfl), (fr_gw5 138 rfl rfl), by decide, by decide, by decide +kernel⟩
theorem mo_X10_284 : fr_mv RX10 284 yX10_judged cX10_judged 1 (some .int) 0 := ⟨(fr_gw5 145 rfl rfl), (fr_gw4 176 rfl rfl), (fr_gw4 177 rfl rfl), (fr_gw1 12 rfl rfl), (fr_gw4 178 rfl rfl), by decide, by decide, by decide +kernel⟩
theorem mo_X10_287 : fr_mv RX10 287 yX10_cover cX10_cover 6 (some .int) 4 := ⟨(fr_gw5 146 rfl rfl), (fr_gw5 81 rfl rfl), (fr_gw5 82 rfl rfl), (fr_gw1 12 rfl rfl), (fr_gw5 83 rfl rfl), by decide, by decide, by decide +kernel⟩
