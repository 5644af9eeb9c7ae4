abbrev fr_LX : List fc_Ce := [((3, 9, [some 2, some 6, some 10, some 13, some 15, some 18, some 25, some 30, none, none]), (upd (upd (fun _ => 0) 8 1) 9 0)), ((3, 2, [some 3, some 5, none, none, none, none]), (upd (upd (upd (upd (fun _ => 0) 2 (-1)) 3 0) 4 0) 5 0)), ((3, 4, [some 4, none]), (upd (fun _ => 0) 1 0)), ((0, 35, []), (fun _ => 0)), ((0, 32, []), (fun j => if j < 32 then (-1) else (fun _ => 0) j)), ((3, 3, [some 7, some 9, none, none]), (upd (upd (fun _ => 0) 2 (-1)) 3 0)), ((3, 4, [some 8, none]), (upd (fun _ => 0) 1 0)), ((0, 40, []), (fun _ => 0)), ((0, 5, []), (fun _ => 0)), ((3, 0, [some 11, some 12]), (fun _ => 0)), ((0, 4, []), (upd (upd (upd (upd (fun _ => 0) 0 5) 1 8) 2 2) 3 12)), ((0, 4, []), (upd (upd (upd (upd (fun _ => 0) 0 99) 1 99) 2 99) 3 99)), ((3, 8, [some 14]), (fun _ => 0)), ((0, 160, []), (upd (upd (upd (upd (upd (upd (upd (upd (upd (upd (upd (upd (upd (upd (upd (upd (upd (upd (upd (upd (upd (upd (upd (upd (upd (upd (upd (upd (upd (upd (upd (upd (fun _ => 0) 0 1) 1 1) 2 1) 3 1) 4 1) 5 1) 6 1) 7 1) 8 1) 9 1) 10 1) 11 1) 12 1) 13 1) 14 1) 15 1) 16 1) 17 1) 18 1) 19 1) 20 1) 21 1) 22 1) 23 1) 24 1) 25 1) 26 1) 27 1) 28 1) 29 1) 30 1) 31 1)), ((3, 7, [some 16, some 17, none]), (upd (fun _ => 0) 2 0)), ((0, 40, []), (fun _ => 0)), ((0, 40, []), (fun _ => 0)), ((3, 1, [some 19, some 20, some 21, some 22, some 23, some 24, none, none]), (upd (upd (fun _ => 0) 6 0) 7 0)), ((0, 40, []), (fun _ => 0)), ((0, 32, []), (fun _ => 0)), ((0, 4, []), (fun _ => 0)), ((0, 32, []), (fun _ => 0)), ((0, 32, []), (fun _ => 0)), ((0, 10, []), (fun _ => 0)), ((3, 6, [some 26, some 27, some 28, some 29, none]), (upd (fun _ => 0) 4 0)), ((0, 7, []), (fun _ => 0)), ((0, 7, []), (fun _ => 0)), ((0, 7, []), (fun _ => 0)), ((0, 128, []), (fun _ => 0)), ((2, 4, [some 31, some 33, some 35, some 37]), (fun _ => 0)), ((3, 5, [some 32, none, none]), (upd (upd (fun _ => 0) 1 (-1)) 2 0)), ((0, 60, []), (fun _ => 0)), ((3, 5, [some 34, none, none]), (upd (upd (fun _ => 0) 1 (-1)) 2 0)), ((0, 60, []), (fun _ => 0)), ((3, 5, [some 36, none, none]), (upd (upd (fun _ => 0) 1 (-1)) 2 0)), ((0, 60, []), (fun _ => 0)), ((3, 5, [some 38, none, none]), (upd (upd (fun _ => 0) 1 (-1)) 2 0)), ((0, 60, []), (fun _ => 0))]
abbrev fr_LM : List fc_Ce := [((3, 10, [some 2, some 3, some 4, some 5, none, some 6, some 7, none, some 8, some 9, some 10, none, none, none, none, some 11, some 12, some 13, some 14, none, some 15, some 16, none, none, none, some 17, some 18, none, some 19, some 20, some 21]), (fun _ => 0)), ((0, 4, []), (upd (upd (upd (upd (fun _ => 0) 0 (-1)) 1 (-1)) 2 (-1)) 3 (-1))), ((0, 4, []), (fun _ => 0)), ((0, 240, []), (fun _ => 0)), ((0, 60, []), (fun _ => 0)), ((0, 80, []), (fun _ => 0)), ((0, 2, []), (fun _ => 0)), ((1, 32, []), (fun _ => 0)), ((0, 32, []), (fun _ => 0)), ((0, 32, []), (fun _ => 0)), ((0, 40, []), (fun _ => 0)), ((0, 4, []), (upd (upd (upd (upd (fun _ => 0) 0 5) 1 8) 2 2) 3 12)), ((0, 4, []), (upd (upd (upd (upd (fun _ => 0) 0 99) 1 99) 2 99) 3 99)), ((0, 160, []), (upd (upd (upd (upd (upd (upd (upd (upd (upd (upd (upd (upd (upd (upd (upd (upd (upd (upd (upd (upd (upd (upd (upd (upd (upd (upd (upd (upd (upd (upd (upd (upd (fun _ => 0) 0 1) 1 1) 2 1) 3 1) 4 1) 5 1) 6 1) 7 1) 8 1) 9 1) 10 1) 11 1) 12 1) 13 1) 14 1) 15 1) 16 1) 17 1) 18 1) 19 1) 20 1) 21 1) 22 1) 23 1) 24 1) 25 1) 26 1) 27 1) 28 1) 29 1) 30 1) 31 1)), ((0, 80, []), (fun _ => 0)), ((0, 4, []), (fun _ => 0)), ((0, 32, []), (fun _ => 0)), ((0, 32, []), (fun _ => 0)), ((0, 14, []), (fun _ => 0)), ((0, 7, []), (fun _ => 0)), ((0, 7, []), (fun _ => 0))]
/-- the two systems as they begin -/
def fr_x0 : fr_St := fun k => match k with
  | 0 => (upd (upd (fun _ => 0) 8 1) 9 0)
  | 1 => (upd (upd (upd (upd (fun _ => 0) 2 (-1)) 3 0) 4 0) 5 0)
  | 2 => (upd (fun _ => 0) 1 0)
  | 3 => (upd (fun _ => 0) 1 0)
  | 4 => (fun _ => 0)
  | 5 => (fun _ => 0)
  | 6 => (fun j => if j < 32 then (-1) else (fun _ => 0) j)
  | 7 => (upd (upd (fun _ => 0) 2 (-1)) 3 0)
  | 8 => (fun _ => 0)
  | 9 => (fun _ => 0)
  | 10 => (upd (upd (upd (upd (fun _ => 0) 0 5) 1 8) 2 2) 3 12)
  | 11 => (upd (upd (upd (upd (fun _ => 0) 0 99) 1 99) 2 99) 3 99)
  | 12 => (fun _ => 0)
  | 13 => (upd (upd (upd (upd (upd (upd (upd (upd (upd (upd (upd (upd (upd (upd (upd (upd (upd (upd (upd (upd (upd (upd (upd (upd (upd (upd (upd (upd (upd (upd (upd (upd (fun _ => 0) 0 1) 1 1) 2 1) 3 1) 4 1) 5 1) 6 1) 7 1) 8 1) 9 1) 10 1) 11 1) 12 1) 13 1) 14 1) 15 1) 16 1) 17 1) 18 1) 19 1) 20 1) 21 1) 22 1) 23 1) 24 1) 25 1) 26 1) 27 1) 28 1) 29 1) 30 1) 31 1)
  | 14 => (upd (fun _ => 0) 2 0)
  | 15 => (fun _ => 0)
  | 16 => (fun _ => 0)
  | 17 => (upd (upd (fun _ => 0) 6 0) 7 0)
  | 18 => (fun _ => 0)
  | 19 => (fun _ => 0)
  | 20 => (fun _ => 0)
  | 21 => (fun _ => 0)
  | 22 => (fun _ => 0)
  | 23 => (fun _ => 0)
  | 24 => (upd (fun _ => 0) 4 0)
  | 25 => (fun _ => 0)
  | 26 => (fun _ => 0)
  | 27 => (fun _ => 0)
  | 28 => (fun _ => 0)
  | 29 => (fun _ => 0)
  | 30 => (upd (upd (fun _ => 0) 1 (-1)) 2 0)
  | 31 => (upd (upd (fun _ => 0) 1 (-1)) 2 0)
  | 32 => (upd (upd (fun _ => 0) 1 (-1)) 2 0)
  | 33 => (upd (upd (fun _ => 0) 1 (-1)) 2 0)
  | 34 => (fun _ => 0)
  | 35 => (fun _ => 0)
  | 36 => (fun _ => 0)
  | 37 => (fun _ => 0)
  | _ => fun _ => 0
def fr_m0 : fr_St := fun k => match k with
  | 0 => (fun _ => 0)
  | 1 => (upd (upd (upd (upd (fun _ => 0) 0 (-1)) 1 (-1)) 2 (-1)) 3 (-1))
  | 2 => (fun _ => 0)
  | 3 => (fun _ => 0)
  | 4 => (fun _ => 0)
  | 5 => (fun _ => 0)
  | 6 => (fun _ => 0)
  | 7 => (fun _ => 0)
  | 8 => (fun _ => 0)
  | 9 => (fun _ => 0)
  | 10 => (fun _ => 0)
  | 11 => (upd (upd (upd (upd (fun _ => 0) 0 5) 1 8) 2 2) 3 12)
  | 12 => (upd (upd (upd (upd (fun _ => 0) 0 99) 1 99) 2 99) 3 99)
  | 13 => (upd (upd (upd (upd (upd (upd (upd (upd (upd (upd (upd (upd (upd (upd (upd (upd (upd (upd (upd (upd (upd (upd (upd (upd (upd (upd (upd (upd (upd (upd (upd (upd (fun _ => 0) 0 1) 1 1) 2 1) 3 1) 4 1) 5 1) 6 1) 7 1) 8 1) 9 1) 10 1) 11 1) 12 1) 13 1) 14 1) 15 1) 16 1) 17 1) 18 1) 19 1) 20 1) 21 1) 22 1) 23 1) 24 1) 25 1) 26 1) 27 1) 28 1) 29 1) 30 1) 31 1)
  | 14 => (fun _ => 0)
  | 15 => (fun _ => 0)
  | 16 => (fun _ => 0)
  | 17 => (fun _ => 0)
  | 18 => (fun _ => 0)
  | 19 => (fun _ => 0)
  | 20 => (fun _ => 0)
  | _ => fun _ => 0
abbrev fr_pl : List Nat := [0, 1, 2, 6, 3, 7, 4, 5, 8, 9, 10, 11, 12, 13, 14, 15, 16, 17, 18, 19, 20, 21, 22, 23, 24, 25, 26, 27, 28, 29, 30, 32, 34, 36, 31, 33, 35, 37]
def fr_pi (k : Nat) : Nat := fr_pl.getD k 0
theorem no_L_7 : fc_no RL 7 9 [some 0, some 0, some 0, some 0, some 0, some 0, some 0, some 0, none, none] 10 := ⟨RX9, TX9, tyX9, rfl, iw_X9, tyX9_ok, (fr_gw1 15 rfl rfl), (fr_gw1 16 rfl rfl), (fr_gw1 1 rfl rfl), by decide +kernel, rfl⟩
theorem no_L_10 : fc_no RL 10 10 [some 0, some 0, some 0, some 0, none, some 0, some 0, none, some 0, some 0, some 0, none, none, none, none, some 0, some 0, some 0, some 0, none, some 0, some 0, none, none, none, some 0, some 0, none, some 0, some 0, some 0] 31 := ⟨RX10, TX10, tyX10, rfl, iw_X10, tyX10_ok, (fr_gw3 203 rfl rfl), (fr_gw3 204 rfl rfl), (fr_gw1 12 rfl rfl), by decide +kernel, rfl⟩
theorem cc_L_9 : fc_cI RL 9 yX9_init cX9_init 2 0 := ⟨Or.inl (fr_gw1 17 rfl rfl), (fr_gw1 18 rfl rfl), (fr_gw1 1 rfl rfl), (fr_gw1 19 rfl rfl), by decide, by decide, by decide +kernel, rfl⟩
theorem cc_L_12 : fc_cI RL 12 yX10_init cX10_init 2 0 := ⟨Or.inl (fr_gw3 205 rfl rfl), (fr_gw3 206 rfl rfl), (fr_gw1 12 rfl rfl), (fr_gw3 207 rfl rfl), by decide, by decide, by decide +kernel, rfl⟩
theorem fr_ovr : Cond.arrayOver (.object "FrostHole$Sheet") ∈ lw_tbl := List.mem_append_right _ (List.mem_append_left _ (List.mem_of_getElem? (i := 210) rfl))
theorem fr_nlT : ∀ q ∈ fr_nl, Cond.methodLinkNest q.1 q.2.1 q.2.2.1 q.2.2.2 ∈ lw_tbl := List.forall_mem_cons.mpr ⟨List.mem_append_right _ (List.mem_append_left _ (List.mem_of_getElem? (i := 79) rfl)), List.forall_mem_cons.mpr ⟨List.mem_append_right _ (List.mem_append_left _ (List.mem_of_getElem? (i := 104) rfl)), List.forall_mem_cons.mpr ⟨List.mem_append_right _ (List.mem_append_left _ (List.mem_of_getElem? (i := 132) rfl)), List.forall_mem_cons.mpr ⟨List.mem_append_right _ (List.mem_append_left _ (List.mem_of_getElem? (i := 152) rfl)), List.forall_mem_cons.mpr ⟨List.mem_append_right _ (List.mem_append_left _ (List.mem_of_getElem? (i := 187) rfl)), List.forall_mem_cons.mpr ⟨List.mem_append_right _ (List.mem_append_left _ (List.mem_of_getElem? (i := 212) rfl)), List.forall_mem_cons.mpr ⟨List.mem_append_right _ (List.mem_append_right _ (List.mem_append_left _ (List.mem_of_getElem? (i := 61) rfl))), List.forall_mem_cons.mpr ⟨List.mem_append_right _ (List.mem_append_right _ (List.mem_append_left _ (List.mem_of_getElem? (i := 66) rfl))), List.forall_mem_cons.mpr ⟨List.mem_append_right _ (List.mem_append_right _ (List.mem_append_left _ (List.mem_of_getElem? (i := 77) rfl))), List.forall_mem_cons.mpr ⟨List.mem_append_right _ (List.mem_append_right _ (List.mem_append_left _ (List.mem_of_getElem? (i := 112) rfl))), List.forall_mem_cons.mpr ⟨List.mem_append_right _ (List.mem_append_right _ (List.mem_append_left _ (List.mem_of_getElem? (i := 113) rfl))), List.forall_mem_cons.mpr ⟨List.mem_append_right _ (List.mem_append_right _ (List.mem_append_left _ (List.mem_of_getElem? (i := 163) rfl))), List.forall_mem_cons.mpr ⟨List.mem_append_right _ (List.mem_append_right _ (List.mem_append_left _ (List.mem_of_getElem? (i := 164) rfl))), List.forall_mem_cons.mpr ⟨List.mem_append_right _ (List.mem_append_right _ (List.mem_append_left _ (List.mem_of_getElem? (i := 170) rfl))), List.forall_mem_cons.mpr ⟨List.mem_append_right _ (List.mem_append_right _ (List.mem_append_left _ (List.mem_of_getElem? (i := 223) rfl))), List.forall_mem_cons.mpr ⟨List.mem_append_right _ (List.mem_append_right _ (List.mem_append_left _ (List.mem_of_getElem? (i := 228) rfl))), List.forall_mem_cons.mpr ⟨List.mem_append_right _ (List.mem_append_right _ (List.mem_append_right _ (List.mem_append_left _ (List.mem_of_getElem? (i := 147) rfl)))), fun _ h => absurd h List.not_mem_nil⟩⟩⟩⟩⟩⟩⟩⟩⟩⟩⟩⟩⟩⟩⟩⟩⟩
/-- the tables at the law's start -/
theorem fr_known {s : State} {b : Nat} (hts : ∀ w ∈ lw_tbl, w.before #[Value.ref b] s = true) : ∃ (D : va_G) (cs : Nat → ClassId), fc_kk D cs s := by
  have hgw : ∀ x ∈ fr_gw, x.before #[Value.ref b] s = true := fun x hx => hts x (List.mem_filter.mp hx).1
  obtain ⟨c0, i0, K0⟩ := u_known (C := RX0) (T := TX0) (N := 2) (n := 2) hgw iw_X0 (hgw (.instantiable RX0 2) (fr_gw1 103 rfl rfl))
  obtain ⟨c1, i1, K1⟩ := u_known (C := RX1) (T := TX1) (N := 8) (n := 8) hgw iw_X1 (hgw (.instantiable RX1 8) (fr_gw1 151 rfl rfl))
  obtain ⟨c2, i2, K2⟩ := u_known (C := RX2) (T := TX2) (N := 6) (n := 6) hgw iw_X2 (hgw (.instantiable RX2 6) (fr_gw1 24 rfl rfl))
  obtain ⟨c3, i3, K3⟩ := u_known (C := RX3) (T := TX3) (N := 4) (n := 4) hgw iw_X3 (hgw (.instantiable RX3 4) (fr_gw1 78 rfl rfl))
  obtain ⟨c4, i4, K4⟩ := u_known (C := RX4) (T := TX4) (N := 2) (n := 2) hgw iw_X4 (hgw (.instantiable RX4 2) (fr_gw1 30 rfl rfl))
  obtain ⟨c5, i5, K5⟩ := u_known (C := RX5) (T := TX5) (N := 3) (n := 3) hgw iw_X5 (hgw (.instantiable RX5 3) (fr_gw1 211 rfl rfl))
  obtain ⟨c6, i6, K6⟩ := u_known (C := RX6) (T := TX6) (N := 5) (n := 5) hgw iw_X6 (hgw (.instantiable RX6 5) (fr_gw1 186 rfl rfl))
  obtain ⟨c7, i7, K7⟩ := u_known (C := RX7) (T := TX7) (N := 3) (n := 3) hgw iw_X7 (hgw (.instantiable RX7 3) (fr_gw1 131 rfl rfl))
  obtain ⟨c8, i8, K8⟩ := u_known (C := RX8) (T := TX8) (N := 1) (n := 1) hgw iw_X8 (hgw (.instantiable RX8 1) (fr_gw1 120 rfl rfl))
  obtain ⟨c9, i9, K9⟩ := u_known (C := RX9) (T := TX9) (N := 10) (n := 10) hgw iw_X9 (hgw (.instantiable RX9 10) (fr_gw1 16 rfl rfl))
  obtain ⟨c10, i10, K10⟩ := u_known (C := RX10) (T := TX10) (N := 31) (n := 31) hgw iw_X10 (hgw (.instantiable RX10 31) (fr_gw3 204 rfl rfl))
  obtain ⟨cI, kI, mI, i1_, i2_, i3_⟩ := Cond.arrayClass_spec (hgw _ aw_int)
  obtain ⟨cZ, kZ, mZ, z1_, z2_, z3_⟩ := Cond.arrayClass_spec (hgw _ aw_bool)
  obtain ⟨mR, cR, kR, r1_, r2_, r3_, r4_, r5_⟩ := Cond.arrayOver_spec (hts _ fr_ovr)
  refine ⟨(fun k => match k with | 0 => c0 | 1 => c1 | 2 => c2 | 3 => c3 | 4 => c4 | 5 => c5 | 6 => c6 | 7 => c7 | 8 => c8 | 9 => c9 | _ => c10, fun k => match k with | 0 => i0 | 1 => i1 | 2 => i2 | 3 => i3 | 4 => i4 | 5 => i5 | 6 => i6 | 7 => i7 | 8 => i8 | 9 => i9 | _ => i10), fun k => match k with | 0 => cI | 1 => cZ | _ => cR, ⟨⟨?_, ?_⟩, fun q hq => va_Nw.of rfl (hts _ (fr_nlT q hq))⟩, va_AO.of (hts _ fr_ovr)⟩
  · intro k q hq
    match k, hq with
    | 0, hq => cases hq; exact K0
    | 1, hq => cases hq; exact K1
    | 2, hq => cases hq; exact K2
    | 3, hq => cases hq; exact K3
    | 4, hq => cases hq; exact K4
    | 5, hq => cases hq; exact K5
    | 6, hq => cases hq; exact K6
    | 7, hq => cases hq; exact K7
    | 8, hq => cases hq; exact K8
    | 9, hq => cases hq; exact K9
    | 10, hq => cases hq; exact K10
    | k + 11, hq => simp [vwCl] at hq
  · intro k q hq
    match k, hq with
    | 0, hq => cases hq; exact ⟨fun n z => ⟨fun k h => (by cases h), kI, i2_, mI, i3_⟩, i1_⟩
    | 1, hq => cases hq; exact ⟨fun n z => ⟨fun k h => (by cases h), kZ, z2_, mZ, z3_⟩, z1_⟩
    | 2, hq => cases hq; exact ⟨fun n z => ⟨fun k h => (by cases h), kR, r3_, mR, r4_⟩, kR, mR, r3_, r4_, r1_, r5_⟩
    | k + 3, hq => simp [fr_ty] at hq
theorem fr_rfeq {ad : Nat → Nat} : (fun j => fc_rf ad ([some 31, some 33, some 35, some 37].getD j none)) = fun j => ([some 30, some 31, some 32, some 33].getD j none).map (fun k => ad (fr_pi k)) := by
  funext j
  match j with
  | 0 => rfl
  | 1 => rfl
  | 2 => rfl
  | 3 => rfl
  | j + 4 => rfl
set_option maxRecDepth 100000 in
set_option maxHeartbeats 4000000 in
theorem fr_permX {D : va_G} {cs : Nat → ClassId} {ad : Nat → Nat} {H : Heap} (hP : va_P D vwCl (fc_wl cs ad 0 fr_LX) H) : va_P D vwCl (fr_wl cs (fun k => ad (fr_pi k)) fr_x0 0 fr_shX) H := by
  have e1 : fr_pl.filterMap (fun i => (fc_wl cs ad 0 fr_LX)[i]?) = fr_wl cs (fun k => ad (fr_pi k)) fr_x0 0 (fr_shX.take 29) ++ (ad 29, fc_eq cs 4 (fun j => fc_rf ad ([some 31, some 33, some 35, some 37].getD j none))) :: fr_wl cs (fun k => ad (fr_pi k)) fr_x0 30 (fr_shX.drop 30) := rfl
  have e2 : fr_wl cs (fun k => ad (fr_pi k)) fr_x0 0 fr_shX = fr_wl cs (fun k => ad (fr_pi k)) fr_x0 0 (fr_shX.take 29) ++ (ad 29, fc_eq cs 4 (fun j => ([some 30, some 31, some 32, some 33].getD j none).map (fun k => ad (fr_pi k)))) :: fr_wl cs (fun k => ad (fr_pi k)) fr_x0 30 (fr_shX.drop 30) := rfl
  rw [e2, ← fr_rfeq]
  exact hP.sub fr_pl e1
set_option maxRecDepth 100000 in
set_option maxHeartbeats 4000000 in
theorem fr_permM {D : va_G} {cs : Nat → ClassId} {ad : Nat → Nat} {H : Heap} (hP : va_P D vwCl (fc_wl cs ad 0 fr_LM) H) : va_P D vwCl (fr_wl cs ad fr_m0 0 fr_shM) H := by
  have e : fc_wl cs ad 0 fr_LM = fr_wl cs ad fr_m0 0 fr_shM := rfl
  rw [← e]
  exact hP
theorem fr_D_by {A : Nat → Prop} {ws ws' : va_W} (hD : va_D A ws) (is : List Nat) (hn : va_nd is = true) (hs : is.map (fun i => (ws[i]?).map Prod.fst) = ws'.map (fun q => some q.1)) : va_D A ws' := by
  have key : ∀ (k : Nat) (q : Nat × va_E), ws'[k]? = some q → ∃ (i : Nat) (q0 : Nat × va_E), is[k]? = some i ∧ ws[i]? = some q0 ∧ q0.1 = q.1 := by
    intro k q hk
    have h1 : (is.map (fun i => (ws[i]?).map Prod.fst))[k]? = some (some q.1) := by rw [hs, List.getElem?_map, hk]; rfl
    rw [List.getElem?_map] at h1
    cases hi : is[k]? with
    | none => rw [hi] at h1; cases h1
    | some i =>
      rw [hi] at h1
      have h2 : (ws[i]?).map Prod.fst = some q.1 := Option.some.inj h1
      cases hw : ws[i]? with
      | none => rw [hw] at h2; cases h2
      | some q0 => rw [hw] at h2; exact ⟨i, q0, rfl, hw, Option.some.inj h2⟩
  refine ⟨fun i j x y hi hj hxy => ?_, fun k q hk => ?_⟩
  · obtain ⟨a, x0, h1, h2, h3⟩ := key i x hi
    obtain ⟨b, y0, h4, h5, h6⟩ := key j y hj
    have hab := hD.1 a b x0 y0 h2 h5 (h3.trans (hxy.trans h6.symm))
    subst hab
    exact va_nd_inj is hn i j a h1 h4
  · obtain ⟨a, q0, -, h2, h3⟩ := key k q hk
    rw [← h3]
    exact hD.2 a q0 h2
set_option maxRecDepth 100000 in
set_option maxHeartbeats 4000000 in
theorem fr_permD {A : Nat → Prop} {cs : Nat → ClassId} {ad ad2 : Nat → Nat} (hD : va_D A (fc_wl cs ad 0 fr_LX ++ fc_wl cs ad2 0 fr_LM)) (σx σm : fr_St) : va_D A (fr_wl cs (fun k => ad (fr_pi k)) σx 0 fr_shX ++ fr_wl cs ad2 σm 0 fr_shM) :=
  fr_D_by hD (fr_pl ++ (List.range 21).map (fun i => 38 + i)) (by decide +kernel) rfl
set_option maxRecDepth 100000 in
set_option maxHeartbeats 4000000 in
theorem fr_permD2 {A : Nat → Prop} {cs : Nat → ClassId} {ad ad2 : Nat → Nat} (hD : va_D A (fc_wl cs ad 0 fr_LX ++ fc_wl cs ad2 0 fr_LM)) (σx σm : fr_St) : va_D A (fr_wl cs ad2 σm 0 fr_shM ++ fr_wl cs (fun k => ad (fr_pi k)) σx 0 fr_shX) :=
  fr_D_by hD ((List.range 21).map (fun i => 38 + i) ++ fr_pl) (by decide +kernel) rfl
def R_law : String := "FrostHoleLaw"
def lw_P (b : Addr) (xs : List Int32) (args : Array Value) (s : State) : Prop := args = #[.ref b] ∧ s.IntsAt b xs ∧ xs.length ≤ 384 ∧ (Jvm.Cond.and given_1 narrow_1).before args s = true
def lw_Q (_ : Array Value) (s : State) (o : Outcome) (t : State) : Prop := o = .returned (some (.int 1)) ∧ Framed s o t [] 600000 7302250
def lw_Z (below : List Frame) (a : Array Value) (s : State) : State → Prop := fun t => ∃ o, t.status = .running ∧ Ended t below o ∧ lw_Q a s o t
/-- the law's own end, with 1 on the stack, nothing written that was there before, its room as the claim has it -/
theorem lw_ret {p : Program} {l : Launch} {e : Env} {s : State} {m : MethodId} {below : List Frame} {meth : Method} {c : Code} {b : Nat} (hx : p.tables.exec = Jvm.exec) (hb : c.code = code) (hr : meth.sig.returnType = ret) (hlocks : meth.locks = false) {pc : Nat} {H : Heap} {ls : Array Slot} (hdg : decode code pc = .ok (.ireturn, 1)) : W p l e room_1 s m #[Value.ref b] below meth c H [] 600000 7302250 (lw_Z below #[Value.ref b] s) (F0 m pc ls [.int 1]) := by
  intro T hT X
  obtain ⟨fs, hret, hrun, hended, hW, hframe⟩ := X.leave (v := some (.int 1)) (hlocks := hlocks) (fun h => by rw [hr] at h; cases h)
  have hmeth' : T.vm.method? m = some meth := X.method'
  refine ⟨T.setFrames fs, ?_, .returned (some (.int 1)), hrun, hended, rfl, ⟨_, rfl⟩, hW, hframe⟩
  jvm_step X.here [X.here.top, hx, hb, hdg, hmeth', hr, ret, narrow_b1]
  (try refine ⟨rfl, ?_⟩); (try refine ⟨rfl, ?_⟩)
  first | (intro acts; rw [hret _ acts rfl rfl rfl]) | rw [hret _ _ rfl rfl rfl]
  exact Steps.refl _
/-- what holds at the law's entry: the machine, the code, the tables' words (any of lw_tbl by 'hts w (by decide +kernel)'), the script of L ints xs at the cell b, what the Statement gives of the start (any of its parts by flat_of_before) -/
def lw_At (p : Program) (s : State) (m : MethodId) (meth : Method) (c : Code) (b L : Nat) (xs : Nat → Int32) : Prop :=
  p.tables.exec = Jvm.exec ∧ c.code = code ∧ meth.sig.returnType = ret ∧ c.maxLocals = 4 ∧ s.vm.findClass R_law = some m.cls ∧ (∀ w ∈ lw_tbl, w.before #[Value.ref b] s = true) ∧ va_X b L xs s s.heap ∧ b < s.heap.size ∧ meth.locks = false ∧ (Jvm.Cond.and given_1 narrow_1).before #[Value.ref b] s = true
set_option maxRecDepth 100000 in
set_option maxHeartbeats 4000000 in
/-- from behind the two constructors on -/
theorem law_go {p : Program} {e : Env} {s : State} {m : MethodId} {below : List Frame} {meth : Method} {c : Code} {l : Launch} {b L : Nat} {xs : Nat → Int32} (hL : L ≤ 384) (C0 : lw_At p s m meth c b L xs) {Rel : fr_St → fr_St → Prop} (hs : sm_sim Rel) (h0 : Rel fr_x0 fr_m0) {D : va_G} {cs : Nat → ClassId} (hk : fc_kk D cs s) {ad ad2 : Nat → Nat} {H : Heap} {locs : List Loc} {la : Array Slot}
    (hP : va_P D vwCl (fc_wl cs ad 0 fr_LX ++ fc_wl cs ad2 0 fr_LM) H) (hD : va_D (fun q : Nat => s.heap.size ≤ q) (fc_wl cs ad 0 fr_LX ++ fc_wl cs ad2 0 fr_LM)) (hS : va_S (fun q : Nat => s.heap.size ≤ q) s.heap H locs) (hl : lv_has la 4 [(0, .ref b), (1, .ref (ad 0)), (2, .ref (ad2 0)), (3, .int 0)]) :
    W p l e room_1 s m #[Value.ref b] below meth c H locs 59 1859 (lw_Z below #[Value.ref b] s) (F0 m 18 la []) := by
  obtain ⟨hx, hb, hr, hml, hown, hts, hX, hbl, hlocks, hgv⟩ := id C0
  have hgw : ∀ x ∈ fr_gw, x.before #[Value.ref b] s = true := fun x hx => hts x (List.mem_filter.mp hx).1
  have hgX : ∀ σm, fr_ok (p, l, e, room_1, s, m, #[Value.ref b], below, meth, c, 59, 1859, lw_Z below #[Value.ref b] s) (fr_wX D cs (fun q : Nat => s.heap.size ≤ q) (fun k => ad (fr_pi k)) ad2 σm) fr_shX code 4 RL 9 332 := fun σm =>
    ⟨hx, hb, hml, hown, hgw, ⟨hk.1.1, hk.1.2⟩, rfl, fun σ => fr_permD hD σ σm, hlocks, rfl, rfl, Nat.le_of_ble_eq_true rfl, Nat.le_of_ble_eq_true rfl⟩
  have hgM : ∀ σx, fr_ok (p, l, e, room_1, s, m, #[Value.ref b], below, meth, c, 59, 1859, lw_Z below #[Value.ref b] s) (fr_wM D cs (fun q : Nat => s.heap.size ≤ q) (fun k => ad (fr_pi k)) ad2 σx) fr_shM code 4 RL 9 332 := fun σx =>
    ⟨hx, hb, hml, hown, hgw, ⟨hk.1.1, hk.1.2⟩, rfl, fun σ => fr_permD2 hD σx σ, hlocks, rfl, rfl, Nat.le_of_ble_eq_true rfl, Nat.le_of_ble_eq_true rfl⟩
  have hend : ∀ σx σm ls, fr_K (p, l, e, room_1, s, m, #[Value.ref b], below, meth, c, 59, 1859, lw_Z below #[Value.ref b] s) (fr_wX D cs (fun q : Nat => s.heap.size ≤ q) (fun k => ad (fr_pi k)) ad2 σm) 4 1456 ls [.int 1] σx := fun σx σm ls H locs la hP hS hl =>
    va_forget (fun q hq => hS.2.2 q hq) (W.widen (k := 600000) (n := 7302250) (Nat.le_of_ble_eq_true rfl) (Nat.le_of_ble_eq_true rfl) (lw_ret hx hb hr hlocks dL_law_1456))
  have hloop := law_loop hgX hgM hX hbl (Nat.not_le.mpr hbl) hL hs hend 384 0 fr_x0 fr_m0 (by omega) (by omega) h0
  have hP1 : va_P D vwCl (fc_wl cs ad 0 fr_LX) H := fun k q hk => hP k q (by rw [List.getElem?_append_left (List.getElem?_eq_some_iff.mp hk).1]; exact hk)
  have hP2 : va_P D vwCl (fc_wl cs ad2 0 fr_LM) H := fun k q hk => hP ((fc_wl cs ad 0 fr_LX).length + k) q (by rw [List.getElem?_append_right (by omega), Nat.add_sub_cancel_left]; exact hk)
  exact hloop H locs la ((fr_permX hP1).app (fr_permM hP2)) hS hl
set_option maxRecDepth 100000 in
set_option maxHeartbeats 4000000 in
/-- the law from its entry, out of the simulation -/
theorem law_from {p : Program} {e : Env} {s : State} {m : MethodId} {below : List Frame} {meth : Method} {c : Code} (l : Launch) {b L : Nat} {xs : Nat → Int32} (hL : L ≤ 384) (C0 : lw_At p s m meth c b L xs) {Rel : fr_St → fr_St → Prop} (hs : sm_sim Rel) (h0 : Rel fr_x0 fr_m0) : W p l e room_1 s m #[Value.ref b] below meth c s.heap [] 0 0 (lw_Z below #[Value.ref b] s) (entryFrame m ([Value.ref b] : List Value).toArray 4) := by
  obtain ⟨hx, hb, hr, hml, hown, hts, hX, hbl, hlocks, hgv⟩ := id C0
  have hgw : ∀ x ∈ fr_gw, x.before #[Value.ref b] s = true := fun x hx => hts x (List.mem_filter.mp hx).1
  obtain ⟨D, cs, hk⟩ := fr_known hts
  have hA : ∀ q : Nat, s.heap.size ≤ q → (fun q : Nat => s.heap.size ≤ q) q := fun _ h => h
  have hS : va_S (fun q : Nat => s.heap.size ≤ q) s.heap s.heap [] := va_S.rf
  have hP : va_P D vwCl [] s.heap := fun k q h => by simp at h
  have hD : va_D (fun q : Nat => s.heap.size ≤ q) [] := ⟨fun i j p q h => by simp at h, fun k q h => by simp at h⟩
  have hl := lv_entry ([.ref b]) (n := 4) (Nat.le_of_ble_eq_true rfl)
  rw [lg_entry_eq]
  generalize (lg_sl ([.ref b]) ++ List.replicate (4 - (lg_sl ([.ref b])).length) Slot.unset).toArray = la at hl ⊢
  have hl : lv_has la 4 [(0, .ref b)] := hl
  obtain ⟨C, T, ty, o1, o2, o3, o4, o5, o6, o7, o8⟩ := no_L_7
  refine va_new hx hb hgw o2 ty o3 hown (hgw _ o4) (hgw _ o5) (hgw _ o6) hk.1.1 hP hD hS hA o1 (fs := fc_fl (fun _ => 0) (fun _ => 0) 0 [some 0, some 0, some 0, some 0, some 0, some 0, some 0, some 0, none, none]) o7 (by decide) (by decide) dL_law_0 (fun q H hP hD hS => ?_)
  refine lv_dup hx hb dL_law_3 rfl ?_
  obtain ⟨c1, c2, c3, c4, c5, c6, c7, c8⟩ := cc_L_9
  have c1' : Cond.methodLink RL 9 yX9_init ∈ fr_gw := by
    rcases c1 with h | ⟨host, h⟩
    · exact h
    · exact absurd h (by intro h; simp [fr_nl, RL] at h)
  have hPc : va_P D vwCl (fc_wl cs (fun _ => q) 0 [((3, 9, [some 0, some 0, some 0, some 0, some 0, some 0, some 0, some 0, none, none]), fun _ => 0)]) H := hP
  have hC : [0].map (fun i => ([] ++ [(q, .inr (9, fc_fl (fun _ => 0) (fun _ => 0) 0 [some 0, some 0, some 0, some 0, some 0, some 0, some 0, some 0, none, none]))] : va_W)[i]?) = (fc_wl cs (fun _ => q) 0 [((3, 9, [some 0, some 0, some 0, some 0, some 0, some 0, some 0, some 0, none, none]), fun _ => 0)]).map some := rfl
  have hFc := va_free (wc := fc_wl cs (fun _ => q) 0 [((3, 9, [some 0, some 0, some 0, some 0, some 0, some 0, some 0, some 0, none, none]), fun _ => 0)]) hD hS hA [0] hC
  refine va_callv (va_runI (As := []) (rest := [.ref q]) (Ts := fr_gw) (index := 9) (bytes := cX9_init) (maxL := 2) (n := 0) ⟨hx, hb, hml, hown, hgw⟩ (mX9_init l D cs q H.size) ⟨callB_of 0 hgw (fr_good0 c4) rfl rfl rfl (hgw _ c3) (hgw _ c1') ⟨c5, c6, c7⟩ ⟨by decide, by decide⟩, c8, hgw _ c2⟩
    ⟨fun a U g mk q => ⟨q.1, q.2.1, q.2.2.1, fc_kk_same (s := U) rfl q.2.2.2⟩, fun U hU hW => ⟨rfl, by rw [hU], by rw [hU]; exact hPc, fc_kk_warm hW hk⟩⟩ rfl rfl hl.1 rfl (lv_room (Nat.le_of_ble_eq_true rfl)) dL_law_4 ⟨by decide, by decide⟩) hS (fun q _ h => hFc q h) hFc (fun u t H1 locs ht hvm hw hB hz1 hk1 hS => ?_)
  obtain ⟨ad, ea, hP1, hD1⟩ := hB
  rw [ht] at hP1
  obtain ⟨hP, hD⟩ := va_join (wr := []) (w1 := fc_wl cs ad 0 fr_LX) hP hD [0] [] hC rfl rfl (fun i hi => by cases hi) hk1 hFc hP1 hD1
  generalize H1 = HX at hP hS ⊢
  have hPX : va_P D vwCl (fc_wl cs ad 0 fr_LX) HX := hP
  have hDX : va_D (fun q : Nat => s.heap.size ≤ q) (fc_wl cs ad 0 fr_LX) := hD
  have hSX := hS
  clear hP hD hS
  subst ea
  refine lv_astore_n (lv' := [(1, .ref (ad 0)), (0, .ref b)]) hx hb dL_law_7 rfl hl (by decide) rfl (fun la hl => ?_)
  obtain ⟨C', T', ty', o1', o2', o3', o4', o5', o6', o7', o8'⟩ := no_L_10
  refine va_new hx hb hgw o2' ty' o3' hown (hgw _ o4') (hgw _ o5') (hgw _ o6') hk.1.1 hPX hDX hSX hA o1' (fs := fc_fl (fun _ => 0) (fun _ => 0) 0 [some 0, some 0, some 0, some 0, none, some 0, some 0, none, some 0, some 0, some 0, none, none, none, none, some 0, some 0, some 0, some 0, none, some 0, some 0, none, none, none, some 0, some 0, none, some 0, some 0, some 0]) o7' (by decide) (by decide) dL_law_8 (fun q H hP hD hS => ?_)
  refine lv_dup hx hb dL_law_11 rfl ?_
  obtain ⟨d1, d2, d3, d4, d5, d6, d7, d8⟩ := cc_L_12
  have d1' : Cond.methodLink RL 12 yX10_init ∈ fr_gw := by
    rcases d1 with h | ⟨host, h⟩
    · exact h
    · exact absurd h (by intro h; simp [fr_nl, RL] at h)
  have hlen : (fc_wl cs ad 0 fr_LX).length = 38 := fc_wl_len fr_LX 0
  have hC : [38].map (fun i => (fc_wl cs ad 0 fr_LX ++ [(q, .inr (10, fc_fl (fun _ => 0) (fun _ => 0) 0 [some 0, some 0, some 0, some 0, none, some 0, some 0, none, some 0, some 0, some 0, none, none, none, none, some 0, some 0, some 0, some 0, none, some 0, some 0, none, none, none, some 0, some 0, none, some 0, some 0, some 0]))])[i]?) = (fc_wl cs (fun _ => q) 0 [((3, 10, [some 0, some 0, some 0, some 0, none, some 0, some 0, none, some 0, some 0, some 0, none, none, none, none, some 0, some 0, some 0, some 0, none, some 0, some 0, none, none, none, some 0, some 0, none, some 0, some 0, some 0]), fun _ => 0)]).map some := by
    show [(fc_wl cs ad 0 fr_LX ++ _)[38]?] = _
    rw [List.getElem?_append_right (by omega), hlen]
    rfl
  have hR : (List.range 38).map (fun i => (fc_wl cs ad 0 fr_LX ++ [(q, .inr (10, fc_fl (fun _ => 0) (fun _ => 0) 0 [some 0, some 0, some 0, some 0, none, some 0, some 0, none, some 0, some 0, some 0, none, none, none, none, some 0, some 0, some 0, some 0, none, some 0, some 0, none, none, none, some 0, some 0, none, some 0, some 0, some 0]))])[i]?) = (fc_wl cs ad 0 fr_LX).map some := by
    have e := fc_rng (fc_wl cs ad 0 fr_LX) [(q, .inr (10, fc_fl (fun _ => 0) (fun _ => 0) 0 [some 0, some 0, some 0, some 0, none, some 0, some 0, none, some 0, some 0, some 0, none, none, none, none, some 0, some 0, some 0, some 0, none, some 0, some 0, none, none, none, some 0, some 0, none, some 0, some 0, some 0]))]
    rw [hlen] at e
    exact e
  have hPc : va_P D vwCl (fc_wl cs (fun _ => q) 0 [((3, 10, [some 0, some 0, some 0, some 0, none, some 0, some 0, none, some 0, some 0, some 0, none, none, none, none, some 0, some 0, some 0, some 0, none, some 0, some 0, none, none, none, some 0, some 0, none, some 0, some 0, some 0]), fun _ => 0)]) H := fun k x hx => hP (38 + k) x (by
    rw [List.getElem?_append_right (by omega), hlen, Nat.add_sub_cancel_left]; exact hx)
  have hFc := va_free (wc := fc_wl cs (fun _ => q) 0 [((3, 10, [some 0, some 0, some 0, some 0, none, some 0, some 0, none, some 0, some 0, some 0, none, none, none, none, some 0, some 0, some 0, some 0, none, some 0, some 0, none, none, none, some 0, some 0, none, some 0, some 0, some 0]), fun _ => 0)]) hD hS hA [38] hC
  refine va_callv (va_runI (As := []) (rest := [.ref q]) (Ts := fr_gw) (index := 12) (bytes := cX10_init) (maxL := 2) (n := 0) ⟨hx, hb, hml, hown, hgw⟩ (mX10_init l D cs q H.size) ⟨callB_of 0 hgw (fr_good0 d4) rfl rfl rfl (hgw _ d3) (hgw _ d1') ⟨d5, d6, d7⟩ ⟨by decide, by decide⟩, d8, hgw _ d2⟩
    ⟨fun a U g mk q => ⟨q.1, q.2.1, q.2.2.1, fc_kk_same (s := U) rfl q.2.2.2⟩, fun U hU hW => ⟨rfl, by rw [hU], by rw [hU]; exact hPc, fc_kk_warm hW hk⟩⟩ rfl rfl hl.1 rfl (lv_room (Nat.le_of_ble_eq_true rfl)) dL_law_12 ⟨by decide, by decide⟩) hS (fun q _ h => hFc q h) hFc (fun u t H1 locs ht hvm hw hB hz1 hk1 hS => ?_)
  obtain ⟨ad2, ea, hP1, hD1⟩ := hB
  rw [ht] at hP1
  obtain ⟨hP, hD⟩ := va_join (wr := fc_wl cs ad 0 fr_LX) (w1 := fc_wl cs ad2 0 fr_LM) hP hD [38] (List.range 38) hC hR (by decide +kernel) (fun i hi hj => by
    have h2 := List.mem_range.mp hi
    have h3 : i = 38 := by simpa using hj
    omega) hk1 hFc hP1 hD1
  have hPY := hP
  have hDY := hD
  have hSY := hS
  clear hP hD hS
  subst ea
  refine lv_astore_n (lv' := [(2, .ref (ad2 0)), (1, .ref (ad 0)), (0, .ref b)]) hx hb dL_law_15 rfl hl (by decide) rfl (fun la hl => ?_)
  refine lv_iconst (v := 0) hx hb dL_law_16 (by decide) ?_
  refine lv_istore_n (lv' := [(3, .int 0), (2, .ref (ad2 0)), (1, .ref (ad 0)), (0, .ref b)]) hx hb dL_law_17 rfl hl (by decide) rfl (fun la hl => ?_)
  exact law_go hL C0 hs h0 hk hPY hDY hSY (lv_sub hl [3, 2, 1, 0] rfl)
