/-! the law's two worlds -/
def fr_wX (D : va_G) (cs : Nat → ClassId) (A : Nat → Prop) (adx adm : Nat → Nat) (σm : fr_St) : fr_W := (D, cs, A, adx, fr_wl cs adm σm 0 fr_shM, fr_shX)
def fr_wM (D : va_G) (cs : Nat → ClassId) (A : Nat → Prop) (adx adm : Nat → Nat) (σx : fr_St) : fr_W := (D, cs, A, adm, fr_wl cs adx σx 0 fr_shX, fr_shM)
theorem fr_Pcomm {D : va_G} {cl : List vw_C} {a b : va_W} {H : Heap} (h : va_P D cl (a ++ b) H) : va_P D cl (b ++ a) H := by
  refine va_P.app (fun k q hk => h (a.length + k) q ?_) (fun k q hk => h k q ?_)
  · rw [List.getElem?_append_right (by omega), Nat.add_sub_cancel_left]; exact hk
  · rw [List.getElem?_append_left (List.getElem?_eq_some_iff.mp hk).1]; exact hk
section FRL
variable {g : fr_G} {w : fr_W} {S : List fr_Sh} {cc cc' : ByteArray} {nL nL' : Nat} {own : String} {fr lo fr' lo' : Nat} {pc n : Nat} {ls : List (Nat × Value)} {st stk : List Value} {σ σ' : fr_St} {y : MethodName} {rty : FieldType} {av : fr_W → List Value} {D : va_G} {cs : Nat → ClassId} {A : Nat → Prop} {adx adm : Nat → Nat} {σx σm : fr_St}
theorem fr_swap (k : fr_K g (fr_wM D cs A adx adm σx) nL pc ls st σm) : fr_K g (fr_wX D cs A adx adm σm) nL pc ls st σx := fun H locs la hP hS hl => k H locs la (fr_Pcomm hP) hS hl
theorem fr_swap2 (k : fr_K g (fr_wX D cs A adx adm σm) nL pc ls st σx) : fr_K g (fr_wM D cs A adx adm σx) nL pc ls st σm := fun H locs la hP hS hl => k H locs la (fr_Pcomm hP) hS hl
theorem fr_kV (k : fr_V g w nL (some ()) (fun _ => True) pc ls st σ) : fr_K g w nL pc ls st σ := k () rfl trivial
theorem fr_Vk (k : fr_K g w nL pc ls st σ) : fr_V g w nL (some ()) (fun _ => True) pc ls st σ := fun _ _ _ => k
theorem fr_kci2 (hg : fr_ok g w S cc nL own fr lo) {f : fr_St → Option (Int32 × fr_St)} {r : Int32} (hM : fr_MI2 y cc' nL' rty fr' lo' S av f) (hc : fr_cr g w nL y cc' nL' (some rty) fr' lo' (av w) pc stk st σ) (hf : f σ = some (r, σ')) (hn : pc + 3 = n) (k : fr_K g w nL n ls (.int r :: st) σ') : fr_K g w nL pc ls stk σ :=
  fr_ci2 (G := fun p => some p) (P := fun p => fr_K g w nL n ls (.int p.1 :: st) p.2) hg hM hc hn (fun p t h hp => by cases h; exact hp) (r, σ') (by rw [hf]; rfl) k
theorem fr_kci1 (hg : fr_ok g w S cc nL own fr lo) {f : fr_St → Option Int32} {r : Int32} (hM : fr_MI1 y cc' nL' rty fr' lo' S av f) (hc : fr_cr g w nL y cc' nL' (some rty) fr' lo' (av w) pc stk st σ) (hf : f σ = some r) (hn : pc + 3 = n) (k : fr_K g w nL n ls (.int r :: st) σ) : fr_K g w nL pc ls stk σ :=
  fr_ci1 (G := fun p => some p) (P := fun p => fr_K g w nL n ls (.int p :: st) σ) hg hM hc hn (fun p t h hp => by cases h; exact hp) r (by rw [hf]; rfl) k
theorem fr_kci0 (hg : fr_ok g w S cc nL own fr lo) {f : fr_St → Int32} {r : Int32} (hM : fr_MI0 y cc' nL' rty fr' lo' S av f) (hc : fr_cr g w nL y cc' nL' (some rty) fr' lo' (av w) pc stk st σ) (hf : f σ = r) (hn : pc + 3 = n) (k : fr_K g w nL n ls (.int r :: st) σ) : fr_K g w nL pc ls stk σ :=
  fr_kV (fr_ci0 hg hM hc hn (fr_Vk (by rw [hf]; exact k)))
theorem fr_kcl2 (hg : fr_ok g w S cc nL own fr lo) {f : fr_St → Option (Int64 × fr_St)} {r : Int64} (hM : fr_ML2 y cc' nL' fr' lo' S av f) (hc : fr_cr g w nL y cc' nL' (some .long) fr' lo' (av w) pc stk st σ) (hf : f σ = some (r, σ')) (hn : pc + 3 = n) (k : fr_K g w nL n ls (.long r :: st) σ') : fr_K g w nL pc ls stk σ :=
  fr_cl2 (G := fun p => some p) (P := fun p => fr_K g w nL n ls (.long p.1 :: st) p.2) hg hM hc hn (fun p t h hp => by cases h; exact hp) (r, σ') (by rw [hf]; rfl) k
theorem fr_kcl1 (hg : fr_ok g w S cc nL own fr lo) {f : fr_St → Option Int64} {r : Int64} (hM : fr_ML1 y cc' nL' fr' lo' S av f) (hc : fr_cr g w nL y cc' nL' (some .long) fr' lo' (av w) pc stk st σ) (hf : f σ = some r) (hn : pc + 3 = n) (k : fr_K g w nL n ls (.long r :: st) σ) : fr_K g w nL pc ls stk σ :=
  fr_cl1 (G := fun p => some p) (P := fun p => fr_K g w nL n ls (.long p :: st) σ) hg hM hc hn (fun p t h hp => by cases h; exact hp) r (by rw [hf]; rfl) k
theorem fr_kcl0 (hg : fr_ok g w S cc nL own fr lo) {f : fr_St → Int64} {r : Int64} (hM : fr_ML0 y cc' nL' fr' lo' S av f) (hc : fr_cr g w nL y cc' nL' (some .long) fr' lo' (av w) pc stk st σ) (hf : f σ = r) (hn : pc + 3 = n) (k : fr_K g w nL n ls (.long r :: st) σ) : fr_K g w nL pc ls stk σ :=
  fr_kV (fr_cl0 hg hM hc hn (fr_Vk (by rw [hf]; exact k)))
theorem fr_keq (hg : fr_ok g w S cc nL own fr lo) {x y : Int32} {off : Int} {m : Nat} (hc : x = y) (d : decode cc pc = .ok (.if_icmp .eq off, 3)) (ht : (pc : Int) + off = (m : Int)) (k : fr_K g w nL m ls st σ) : fr_K g w nL pc ls (.int y :: .int x :: st) σ :=
  fun H locs la hP hS hl => lv_icmp_eq hg.1 hg.2.1 d ht (fun _ => k H locs la hP hS hl) (fun h => absurd hc h)
theorem fr_kz (hg : fr_ok g w S cc nL own fr lo) {x : Int32} {off : Int} {m : Nat} (hc : x = 0) (d : decode cc pc = .ok (.ifCond .eq off, 3)) (ht : (pc : Int) + off = (m : Int)) (k : fr_K g w nL m ls st σ) : fr_K g w nL pc ls (.int x :: st) σ :=
  fun H locs la hP hS hl => lv_if_eq hg.1 hg.2.1 d ht (fun _ => k H locs la hP hS hl) (fun h => absurd hc h)
theorem fr_kgt (hg : fr_ok g w S cc nL own fr lo) {x y : Int32} {off : Int} {m : Nat} (d : decode cc pc = .ok (.if_icmp .gt off, 3)) (ht : (pc : Int) + off = (m : Int)) (hn : pc + 3 = n) (kt : y < x → fr_K g w nL m ls st σ) (kf : ¬ y < x → fr_K g w nL n ls st σ) : fr_K g w nL pc ls (.int y :: .int x :: st) σ := by
  subst hn
  exact fun H locs la hP hS hl => lv_icmp_gt hg.1 hg.2.1 d ht (fun h => kt h H locs la hP hS hl) (fun h => kf h H locs la hP hS hl)
theorem fr_ksld (hg : fr_ok g w S cc nL own fr lo) {b L i : Nat} {xs : Nat → Int32} {x : Int32} (hX : va_X b L xs g.2.2.2.2.1 g.2.2.2.2.1.heap) (hbl : b < g.2.2.2.2.1.heap.size) (hbA : ¬ fr_A w b) (hx : x = nI i) (hi : i < L ∧ L < 2 ^ 31) (d : decode cc pc = .ok (.iaload, 1)) (hn : pc + 1 = n) (k : fr_K g w nL n ls (.int (xs i) :: st) σ) : fr_K g w nL pc ls (.int x :: .ref b :: st) σ := by
  subst hn; subst hx
  intro H locs la hP hS hl
  refine va_sld hg.1 hg.2.1 hX hbl hbA hS (vp_in_nI hi.1 hi.2) d ?_
  rw [nI_clamp (by omega)]
  exact k H locs la hP hS hl
theorem fr_kslen (hg : fr_ok g w S cc nL own fr lo) {b L : Nat} {xs : Nat → Int32} (hX : va_X b L xs g.2.2.2.2.1 g.2.2.2.2.1.heap) (hbl : b < g.2.2.2.2.1.heap.size) (hbA : ¬ fr_A w b) (d : decode cc pc = .ok (.arraylength, 1)) (hn : pc + 1 = n) (k : fr_K g w nL n ls (.int (nI L) :: st) σ) : fr_K g w nL pc ls (.ref b :: st) σ := by
  subst hn
  intro H locs la hP hS hl
  exact va_slen hg.1 hg.2.1 hX hbl hbA hS d (k H locs la hP hS hl)
end FRL
theorem mo_L_13 : fr_mv RL 13 yX9_type cX9_type 4 (some .int) 2 := ⟨(fr_gw2 20 rfl rfl), (fr_gw2 21 rfl rfl), (fr_gw2 22 rfl rfl), (fr_gw1 1 rfl rfl), (fr_gw2 23 rfl rfl), by decide, by decide, by decide +kernel⟩
theorem mo_L_17 : fr_mv RL 17 yX10_type cX10_type 3 (some .int) 2 := ⟨(fr_gw4 104 rfl rfl), (fr_gw4 105 rfl rfl), (fr_gw4 106 rfl rfl), (fr_gw1 12 rfl rfl), (fr_gw4 107 rfl rfl), by decide, by decide, by decide +kernel⟩
theorem mo_L_18 : fr_mv RL 18 yX9_wipe cX9_wipe 4 (some .int) 1 := ⟨(fr_gw2 80 rfl rfl), (fr_gw2 81 rfl rfl), (fr_gw2 82 rfl rfl), (fr_gw1 1 rfl rfl), (fr_gw2 83 rfl rfl), by decide, by decide, by decide +kernel⟩
theorem mo_L_22 : fr_mv RL 22 yX10_wipe cX10_wipe 3 (some .int) 1 := ⟨(fr_gw4 112 rfl rfl), (fr_gw4 113 rfl rfl), (fr_gw4 114 rfl rfl), (fr_gw1 12 rfl rfl), (fr_gw4 115 rfl rfl), by decide, by decide, by decide +kernel⟩
theorem mo_L_23 : fr_mv RL 23 yX9_undo cX9_undo 3 (some .int) 1 := ⟨(fr_gw2 84 rfl rfl), (fr_gw2 85 rfl rfl), (fr_gw2 86 rfl rfl), (fr_gw1 1 rfl rfl), (fr_gw2 87 rfl rfl), by decide, by decide, by decide +kernel⟩
theorem mo_L_26 : fr_mv RL 26 yX10_undo cX10_undo 2 (some .int) 1 := ⟨(fr_gw4 116 rfl rfl), (fr_gw4 117 rfl rfl), (fr_gw4 118 rfl rfl), (fr_gw1 12 rfl rfl), (fr_gw4 119 rfl rfl), by decide, by decide, by decide +kernel⟩
theorem mo_L_27 : fr_mv RL 27 yX9_fault cX9_fault 2 (some .int) 1 := ⟨(fr_gw2 88 rfl rfl), (fr_gw2 89 rfl rfl), (fr_gw2 90 rfl rfl), (fr_gw1 1 rfl rfl), (fr_gw2 91 rfl rfl), by decide, by decide, by decide +kernel⟩
theorem mo_L_30 : fr_mv RL 30 yX10_fault cX10_fault 2 (some .int) 1 := ⟨(fr_gw4 120 rfl rfl), (fr_gw4 121 rfl rfl), (fr_gw4 122 rfl rfl), (fr_gw1 12 rfl rfl), (fr_gw4 123 rfl rfl), by decide, by decide, by decide +kernel⟩
theorem mo_L_31 : fr_mv RL 31 yX9_tool cX9_tool 6 (some .int) 3 := ⟨(fr_gw2 92 rfl rfl), (fr_gw2 93 rfl rfl), (fr_gw2 94 rfl rfl), (fr_gw1 1 rfl rfl), (fr_gw2 95 rfl rfl), by decide, by decide, by decide +kernel⟩
theorem mo_L_35 : fr_mv RL 35 yX10_tool cX10_tool 5 (some .int) 3 := ⟨(fr_gw4 144 rfl rfl), (fr_gw4 145 rfl rfl), (fr_gw4 146 rfl rfl), (fr_gw1 12 rfl rfl), (fr_gw4 147 rfl rfl), by decide, by decide, by decide +kernel⟩
theorem mo_L_36 : fr_mv RL 36 yX9_looks cX9_looks 5 (some .int) 3 := ⟨(fr_gw2 102 rfl rfl), (fr_gw2 103 rfl rfl), (fr_gw2 104 rfl rfl), (fr_gw1 1 rfl rfl), (fr_gw2 105 rfl rfl), by decide, by decide, by decide +kernel⟩
theorem mo_L_39 : fr_mv RL 39 yX10_looks cX10_looks 5 (some .int) 3 := ⟨(fr_gw4 153 rfl rfl), (fr_gw4 154 rfl rfl), (fr_gw4 155 rfl rfl), (fr_gw1 12 rfl rfl), (fr_gw4 156 rfl rfl), by decide, by decide, by decide +kernel⟩
theorem mo_L_40 : fr_mv RL 40 yX9_read cX9_read 6 (some .int) 2 := ⟨(fr_gw2 118 rfl rfl), (fr_gw2 119 rfl rfl), (fr_gw2 120 rfl rfl), (fr_gw1 1 rfl rfl), (fr_gw2 121 rfl rfl), by decide, by decide, by decide +kernel⟩
theorem mo_L_43 : fr_mv RL 43 yX10_read cX10_read 4 (some .int) 2 := ⟨(fr_gw4 162 rfl rfl), (fr_gw4 163 rfl rfl), (fr_gw4 164 rfl rfl), (fr_gw1 12 rfl rfl), (fr_gw4 165 rfl rfl), by decide, by decide, by decide +kernel⟩
theorem mo_L_44 : fr_mv RL 44 yX9_stroke cX9_stroke 3 (some .int) 2 := ⟨(fr_gw2 136 rfl rfl), (fr_gw2 137 rfl rfl), (fr_gw2 138 rfl rfl), (fr_gw1 1 rfl rfl), (fr_gw2 139 rfl rfl), by decide, by decide, by decide +kernel⟩
theorem mo_L_47 : fr_mv RL 47 yX10_stroke cX10_stroke 3 (some .int) 2 := ⟨(fr_gw4 167 rfl rfl), (fr_gw4 168 rfl rfl), (fr_gw4 169 rfl rfl), (fr_gw1 12 rfl rfl), (fr_gw4 170 rfl rfl), by decide, by decide, by decide +kernel⟩
theorem mo_L_48 : fr_mv RL 48 yX9_back cX9_back 1 (some .int) 0 := ⟨(fr_gw2 144 rfl rfl), (fr_gw2 145 rfl rfl), (fr_gw2 146 rfl rfl), (fr_gw1 1 rfl rfl), (fr_gw2 147 rfl rfl), by decide, by decide, by decide +kernel⟩
theorem mo_L_52 : fr_mv RL 52 yX10_back cX10_back 1 (some .int) 0 := ⟨(fr_gw4 171 rfl rfl), (fr_gw4 172 rfl rfl), (fr_gw4 173 rfl rfl), (fr_gw1 12 rfl rfl), (fr_gw4 174 rfl rfl), by decide, by decide, by decide +kernel⟩
theorem mo_L_53 : fr_mv RL 53 yX9_judged cX9_judged 1 (some .int) 0 := ⟨(fr_gw2 148 rfl rfl), (fr_gw2 149 rfl rfl), (fr_gw2 150 rfl rfl), (fr_gw1 1 rfl rfl), (fr_gw2 151 rfl rfl), by decide, by decide, by decide +kernel⟩
theorem mo_L_56 : fr_mv RL 56 yX10_judged cX10_judged 1 (some .int) 0 := ⟨(fr_gw4 175 rfl rfl), (fr_gw4 176 rfl rfl), (fr_gw4 177 rfl rfl), (fr_gw1 12 rfl rfl), (fr_gw4 178 rfl rfl), by decide, by decide, by decide +kernel⟩
theorem mo_L_57 : fr_mv RL 57 yX9_thick cX9_thick 3 (some .int) 2 := ⟨(fr_gw2 183 rfl rfl), (fr_gw2 184 rfl rfl), (fr_gw2 185 rfl rfl), (fr_gw1 1 rfl rfl), (fr_gw2 186 rfl rfl), by decide, by decide, by decide +kernel⟩
theorem mo_L_60 : fr_mv RL 60 yX10_thick cX10_thick 3 (some .int) 2 := ⟨(fr_gw4 187 rfl rfl), (fr_gw4 188 rfl rfl), (fr_gw4 189 rfl rfl), (fr_gw1 12 rfl rfl), (fr_gw4 190 rfl rfl), by decide, by decide, by decide +kernel⟩
theorem mo_L_61 : fr_mv RL 61 yX9_state cX9_state 3 (some .int) 2 := ⟨(fr_gw2 191 rfl rfl), (fr_gw2 192 rfl rfl), (fr_gw2 193 rfl rfl), (fr_gw1 1 rfl rfl), (fr_gw2 194 rfl rfl), by decide, by decide, by decide +kernel⟩
theorem mo_L_64 : fr_mv RL 64 yX10_state cX10_state 3 (some .int) 2 := ⟨(fr_gw4 191 rfl rfl), (fr_gw4 192 rfl rfl), (fr_gw4 193 rfl rfl), (fr_gw1 12 rfl rfl), (fr_gw4 194 rfl rfl), by decide, by decide, by decide +kernel⟩
theorem mo_L_65 : fr_mv RL 65 yX9_left cX9_left 2 (some .int) 1 := ⟨(fr_gw2 207 rfl rfl), (fr_gw2 208 rfl rfl), (fr_gw2 209 rfl rfl), (fr_gw1 1 rfl rfl), (fr_gw2 210 rfl rfl), by decide, by decide, by decide +kernel⟩
theorem mo_L_68 : fr_mv RL 68 yX10_left cX10_left 2 (some .int) 1 := ⟨(fr_gw4 211 rfl rfl), (fr_gw4 212 rfl rfl), (fr_gw4 213 rfl rfl), (fr_gw1 12 rfl rfl), (fr_gw4 214 rfl rfl), by decide, by decide, by decide +kernel⟩
theorem mo_L_69 : fr_mv RL 69 yX9_risk cX9_risk 2 (some .int) 1 := ⟨(fr_gw2 211 rfl rfl), (fr_gw2 212 rfl rfl), (fr_gw2 213 rfl rfl), (fr_gw1 1 rfl rfl), (fr_gw2 214 rfl rfl), by decide, by decide, by decide +kernel⟩
theorem mo_L_72 : fr_mv RL 72 yX10_risk cX10_risk 2 (some .int) 1 := ⟨(fr_gw4 215 rfl rfl), (fr_gw4 216 rfl rfl), (fr_gw4 217 rfl rfl), (fr_gw1 12 rfl rfl), (fr_gw4 218 rfl rfl), by decide, by decide, by decide +kernel⟩
theorem mo_L_73 : fr_mv RL 73 yX9_all cX9_all 2 (some .int) 1 := ⟨(fr_gw2 229 rfl rfl), (fr_gw2 230 rfl rfl), (fr_gw2 231 rfl rfl), (fr_gw1 1 rfl rfl), (fr_gw2 232 rfl rfl), by decide, by decide, by decide +kernel⟩
theorem mo_L_76 : fr_mv RL 76 yX10_all cX10_all 2 (some .int) 1 := ⟨(fr_gw4 219 rfl rfl), (fr_gw4 220 rfl rfl), (fr_gw4 221 rfl rfl), (fr_gw1 12 rfl rfl), (fr_gw4 222 rfl rfl), by decide, by decide, by decide +kernel⟩
theorem mo_L_77 : fr_mv RL 77 yX9_first cX9_first 4 (some .int) 2 := ⟨(fr_gw2 233 rfl rfl), (fr_gw2 234 rfl rfl), (fr_gw2 235 rfl rfl), (fr_gw1 1 rfl rfl), (fr_gw2 236 rfl rfl), by decide, by decide, by decide +kernel⟩
theorem mo_L_80 : fr_mv RL 80 yX10_first cX10_first 3 (some .int) 2 := ⟨(fr_gw4 227 rfl rfl), (fr_gw4 228 rfl rfl), (fr_gw4 229 rfl rfl), (fr_gw1 12 rfl rfl), (fr_gw4 230 rfl rfl), by decide, by decide, by decide +kernel⟩
theorem mo_L_81 : fr_mv RL 81 yX9_stop cX9_stop 8 (some .int) 4 := ⟨(fr_gw2 237 rfl rfl), (fr_gw2 238 rfl rfl), (fr_gw2 239 rfl rfl), (fr_gw1 1 rfl rfl), (fr_gw3 0 rfl rfl), by decide, by decide, by decide +kernel⟩
theorem mo_L_85 : fr_mv RL 85 yX10_stop cX10_stop 5 (some .int) 4 := ⟨(fr_gw5 7 rfl rfl), (fr_gw5 8 rfl rfl), (fr_gw5 9 rfl rfl), (fr_gw1 12 rfl rfl), (fr_gw5 10 rfl rfl), by decide, by decide, by decide +kernel⟩
theorem mo_L_86 : fr_mv RL 86 yX9_warm cX9_warm 4 (some .int) 3 := ⟨(fr_gw3 13 rfl rfl), (fr_gw3 14 rfl rfl), (fr_gw3 15 rfl rfl), (fr_gw1 1 rfl rfl), (fr_gw3 16 rfl rfl), by decide, by decide, by decide +kernel⟩
theorem mo_L_89 : fr_mv RL 89 yX10_warm cX10_warm 4 (some .int) 3 := ⟨(fr_gw5 18 rfl rfl), (fr_gw5 19 rfl rfl), (fr_gw5 20 rfl rfl), (fr_gw1 12 rfl rfl), (fr_gw5 21 rfl rfl), by decide, by decide, by decide +kernel⟩
theorem mo_L_90 : fr_mv RL 90 yX9_crack cX9_crack 3 (some .int) 2 := ⟨(fr_gw3 25 rfl rfl), (fr_gw3 26 rfl rfl), (fr_gw3 27 rfl rfl), (fr_gw1 1 rfl rfl), (fr_gw3 28 rfl rfl), by decide, by decide, by decide +kernel⟩
theorem mo_L_93 : fr_mv RL 93 yX10_crack cX10_crack 3 (some .int) 2 := ⟨(fr_gw5 30 rfl rfl), (fr_gw5 31 rfl rfl), (fr_gw5 32 rfl rfl), (fr_gw1 12 rfl rfl), (fr_gw5 33 rfl rfl), by decide, by decide, by decide +kernel⟩
theorem mo_L_94 : fr_mv RL 94 yX9_melts cX9_melts 4 (some .int) 3 := ⟨(fr_gw3 32 rfl rfl), (fr_gw3 33 rfl rfl), (fr_gw3 34 rfl rfl), (fr_gw1 1 rfl rfl), (fr_gw3 35 rfl rfl), by decide, by decide, by decide +kernel⟩
theorem mo_L_97 : fr_mv RL 97 yX10_melts cX10_melts 4 (some .int) 3 := ⟨(fr_gw5 35 rfl rfl), (fr_gw5 36 rfl rfl), (fr_gw5 37 rfl rfl), (fr_gw1 12 rfl rfl), (fr_gw5 38 rfl rfl), by decide, by decide, by decide +kernel⟩
theorem mo_L_98 : fr_mv RL 98 yX9_again cX9_again 9 (some .int) 4 := ⟨(fr_gw3 41 rfl rfl), (fr_gw3 42 rfl rfl), (fr_gw3 43 rfl rfl), (fr_gw1 1 rfl rfl), (fr_gw3 44 rfl rfl), by decide, by decide, by decide +kernel⟩
theorem mo_L_101 : fr_mv RL 101 yX10_again cX10_again 5 (some .int) 4 := ⟨(fr_gw5 43 rfl rfl), (fr_gw5 44 rfl rfl), (fr_gw5 45 rfl rfl), (fr_gw1 12 rfl rfl), (fr_gw5 46 rfl rfl), by decide, by decide, by decide +kernel⟩
theorem mo_L_102 : fr_mv RL 102 yX9_night cX9_night 4 (some .int) 3 := ⟨(fr_gw3 48 rfl rfl), (fr_gw3 49 rfl rfl), (fr_gw3 50 rfl rfl), (fr_gw1 1 rfl rfl), (fr_gw3 51 rfl rfl), by decide, by decide, by decide +kernel⟩
theorem mo_L_105 : fr_mv RL 105 yX10_night cX10_night 4 (some .int) 3 := ⟨(fr_gw5 54 rfl rfl), (fr_gw5 55 rfl rfl), (fr_gw5 56 rfl rfl), (fr_gw1 12 rfl rfl), (fr_gw5 57 rfl rfl), by decide, by decide, by decide +kernel⟩
theorem mo_L_106 : fr_mv RL 106 yX9_tonight cX9_tonight 9 (some .long) 5 := ⟨(fr_gw3 55 rfl rfl), (fr_gw3 56 rfl rfl), (fr_gw3 57 rfl rfl), (fr_gw1 1 rfl rfl), (fr_gw3 58 rfl rfl), by decide, by decide, by decide +kernel⟩
theorem mo_L_110 : fr_mv RL 110 yX10_tonight cX10_tonight 7 (some .long) 5 := ⟨(fr_gw5 64 rfl rfl), (fr_gw5 65 rfl rfl), (fr_gw5 66 rfl rfl), (fr_gw1 12 rfl rfl), (fr_gw5 67 rfl rfl), by decide, by decide, by decide +kernel⟩
theorem mo_L_111 : fr_mv RL 111 yX9_cover cX9_cover 6 (some .int) 4 := ⟨(fr_gw3 64 rfl rfl), (fr_gw3 65 rfl rfl), (fr_gw3 66 rfl rfl), (fr_gw1 1 rfl rfl), (fr_gw3 67 rfl rfl), by decide, by decide, by decide +kernel⟩
theorem mo_L_114 : fr_mv RL 114 yX10_cover cX10_cover 6 (some .int) 4 := ⟨(fr_gw5 80 rfl rfl), (fr_gw5 81 rfl rfl), (fr_gw5 82 rfl rfl), (fr_gw1 12 rfl rfl), (fr_gw5 83 rfl rfl), by decide, by decide, by decide +kernel⟩
theorem mo_L_115 : fr_mv RL 115 yX9_car cX9_car 3 (some .int) 2 := ⟨(fr_gw3 68 rfl rfl), (fr_gw3 69 rfl rfl), (fr_gw3 70 rfl rfl), (fr_gw1 1 rfl rfl), (fr_gw3 71 rfl rfl), by decide, by decide, by decide +kernel⟩
theorem mo_L_118 : fr_mv RL 118 yX10_car cX10_car 3 (some .int) 2 := ⟨(fr_gw5 85 rfl rfl), (fr_gw5 86 rfl rfl), (fr_gw5 87 rfl rfl), (fr_gw1 12 rfl rfl), (fr_gw5 88 rfl rfl), by decide, by decide, by decide +kernel⟩
theorem mo_L_119 : fr_mv RL 119 yX9_gone cX9_gone 1 (some .int) 0 := ⟨(fr_gw3 93 rfl rfl), (fr_gw3 94 rfl rfl), (fr_gw3 95 rfl rfl), (fr_gw1 1 rfl rfl), (fr_gw3 96 rfl rfl), by decide, by decide, by decide +kernel⟩
theorem mo_L_122 : fr_mv RL 122 yX10_gone cX10_gone 1 (some .int) 0 := ⟨(fr_gw5 89 rfl rfl), (fr_gw5 90 rfl rfl), (fr_gw5 91 rfl rfl), (fr_gw1 12 rfl rfl), (fr_gw5 92 rfl rfl), by decide, by decide, by decide +kernel⟩
theorem mo_L_123 : fr_mv RL 123 yX9_lent cX9_lent 2 (some .int) 1 := ⟨(fr_gw3 101 rfl rfl), (fr_gw3 102 rfl rfl), (fr_gw3 103 rfl rfl), (fr_gw1 1 rfl rfl), (fr_gw3 104 rfl rfl), by decide, by decide, by decide +kernel⟩
theorem mo_L_126 : fr_mv RL 126 yX10_lent cX10_lent 2 (some .int) 1 := ⟨(fr_gw5 93 rfl rfl), (fr_gw5 94 rfl rfl), (fr_gw5 95 rfl rfl), (fr_gw1 12 rfl rfl), (fr_gw5 96 rfl rfl), by decide, by decide, by decide +kernel⟩
theorem mo_L_127 : fr_mv RL 127 yX9_faced cX9_faced 1 (some .int) 0 := ⟨(fr_gw3 109 rfl rfl), (fr_gw3 110 rfl rfl), (fr_gw3 111 rfl rfl), (fr_gw1 1 rfl rfl), (fr_gw3 112 rfl rfl), by decide, by decide, by decide +kernel⟩
theorem mo_L_130 : fr_mv RL 130 yX10_faced cX10_faced 1 (some .int) 0 := ⟨(fr_gw5 114 rfl rfl), (fr_gw5 115 rfl rfl), (fr_gw5 116 rfl rfl), (fr_gw1 12 rfl rfl), (fr_gw5 117 rfl rfl), by decide, by decide, by decide +kernel⟩
theorem mo_L_131 : fr_mv RL 131 yX9_bend cX9_bend 4 (some .int) 3 := ⟨(fr_gw3 117 rfl rfl), (fr_gw3 118 rfl rfl), (fr_gw3 119 rfl rfl), (fr_gw1 1 rfl rfl), (fr_gw3 120 rfl rfl), by decide, by decide, by decide +kernel⟩
theorem mo_L_134 : fr_mv RL 134 yX10_bend cX10_bend 4 (some .int) 3 := ⟨(fr_gw5 122 rfl rfl), (fr_gw5 123 rfl rfl), (fr_gw5 124 rfl rfl), (fr_gw1 12 rfl rfl), (fr_gw5 125 rfl rfl), by decide, by decide, by decide +kernel⟩
theorem mo_L_135 : fr_mv RL 135 yX9_sheet cX9_sheet 4 (some .int) 3 := ⟨(fr_gw3 122 rfl rfl), (fr_gw3 123 rfl rfl), (fr_gw3 124 rfl rfl), (fr_gw1 1 rfl rfl), (fr_gw3 125 rfl rfl), by decide, by decide, by decide +kernel⟩
theorem mo_L_138 : fr_mv RL 138 yX10_sheet cX10_sheet 5 (some .int) 3 := ⟨(fr_gw4 64 rfl rfl), (fr_gw4 65 rfl rfl), (fr_gw4 66 rfl rfl), (fr_gw1 12 rfl rfl), (fr_gw4 67 rfl rfl), by decide, by decide, by decide +kernel⟩
theorem mo_L_139 : fr_mv RL 139 yX9_lose cX9_lose 3 (some .int) 1 := ⟨(fr_gw3 134 rfl rfl), (fr_gw3 135 rfl rfl), (fr_gw3 136 rfl rfl), (fr_gw1 1 rfl rfl), (fr_gw3 137 rfl rfl), by decide, by decide, by decide +kernel⟩
theorem mo_L_142 : fr_mv RL 142 yX10_lose cX10_lose 2 (some .int) 1 := ⟨(fr_gw4 80 rfl rfl), (fr_gw4 81 rfl rfl), (fr_gw4 82 rfl rfl), (fr_gw1 12 rfl rfl), (fr_gw4 83 rfl rfl), by decide, by decide, by decide +kernel⟩
theorem mo_L_143 : fr_mv RL 143 yX9_lay cX9_lay 6 (some .int) 4 := ⟨(fr_gw3 138 rfl rfl), (fr_gw3 139 rfl rfl), (fr_gw3 140 rfl rfl), (fr_gw1 1 rfl rfl), (fr_gw3 141 rfl rfl), by decide, by decide, by decide +kernel⟩
theorem mo_L_146 : fr_mv RL 146 yX10_lay cX10_lay 6 (some .int) 4 := ⟨(fr_gw4 84 rfl rfl), (fr_gw4 85 rfl rfl), (fr_gw4 86 rfl rfl), (fr_gw1 12 rfl rfl), (fr_gw4 87 rfl rfl), by decide, by decide, by decide +kernel⟩
theorem mo_L_147 : fr_mv RL 147 yX9_get cX9_get 5 (some .int) 3 := ⟨(fr_gw3 152 rfl rfl), (fr_gw3 153 rfl rfl), (fr_gw3 154 rfl rfl), (fr_gw1 1 rfl rfl), (fr_gw3 155 rfl rfl), by decide, by decide, by decide +kernel⟩
theorem mo_L_150 : fr_mv RL 150 yX10_get cX10_get 4 (some .int) 3 := ⟨(fr_gw4 95 rfl rfl), (fr_gw4 96 rfl rfl), (fr_gw4 97 rfl rfl), (fr_gw1 12 rfl rfl), (fr_gw4 98 rfl rfl), by decide, by decide, by decide +kernel⟩
theorem mo_L_151 : fr_mv RL 151 yX9_copy cX9_copy 8 (some .int) 5 := ⟨(fr_gw3 157 rfl rfl), (fr_gw3 158 rfl rfl), (fr_gw3 159 rfl rfl), (fr_gw1 1 rfl rfl), (fr_gw3 160 rfl rfl), by decide, by decide, by decide +kernel⟩
theorem mo_L_155 : fr_mv RL 155 yX10_copy cX10_copy 7 (some .int) 5 := ⟨(fr_gw4 100 rfl rfl), (fr_gw4 101 rfl rfl), (fr_gw4 102 rfl rfl), (fr_gw1 12 rfl rfl), (fr_gw4 103 rfl rfl), by decide, by decide, by decide +kernel⟩
theorem mo_L_156 : fr_mv RL 156 yX9_write cX9_write 7 (some .int) 2 := ⟨(fr_gw3 166 rfl rfl), (fr_gw3 167 rfl rfl), (fr_gw3 168 rfl rfl), (fr_gw1 1 rfl rfl), (fr_gw3 169 rfl rfl), by decide, by decide, by decide +kernel⟩
theorem mo_L_159 : fr_mv RL 159 yX10_write cX10_write 6 (some .int) 2 := ⟨(fr_gw5 131 rfl rfl), (fr_gw5 132 rfl rfl), (fr_gw5 133 rfl rfl), (fr_gw1 12 rfl rfl), (fr_gw5 134 rfl rfl), by decide, by decide, by decide +kernel⟩
theorem mo_L_160 : fr_mv RL 160 yX9_count cX9_count 2 (some .int) 1 := ⟨(fr_gw3 170 rfl rfl), (fr_gw3 171 rfl rfl), (fr_gw3 172 rfl rfl), (fr_gw1 1 rfl rfl), (fr_gw3 173 rfl rfl), by decide, by decide, by decide +kernel⟩
theorem mo_L_163 : fr_mv RL 163 yX10_count cX10_count 4 (some .int) 1 := ⟨(fr_gw5 135 rfl rfl), (fr_gw5 136 rfl rfl), (fr_gw5 137 rfl rfl), (fr_gw1 12 rfl rfl), (fr_gw5 138 rfl rfl), by decide, by decide, by decide +kernel⟩
theorem mo_L_164 : fr_mv RL 164 yX9_digest cX9_digest 4 (some .long) 0 := ⟨(fr_gw3 174 rfl rfl), (fr_gw3 175 rfl rfl), (fr_gw3 176 rfl rfl), (fr_gw1 1 rfl rfl), (fr_gw3 177 rfl rfl), by decide, by decide, by decide +kernel⟩
theorem mo_L_168 : fr_mv RL 168 yX10_digest cX10_digest 5 (some .long) 0 := ⟨(fr_gw5 139 rfl rfl), (fr_gw5 140 rfl rfl), (fr_gw5 141 rfl rfl), (fr_gw1 12 rfl rfl), (fr_gw5 142 rfl rfl), by decide, by decide, by decide +kernel⟩
section LAWC
variable {g : fr_G} {D : va_G} {cs : Nat → ClassId} {A : Nat → Prop} {adx adm : Nat → Nat} {σx σm : fr_St} {b L j : Nat} {xs : Nat → Int32} {Rel : fr_St → fr_St → Prop}
def sm_type (Rel : fr_St → fr_St → Prop) : Prop := ∀ (σx σm : fr_St) (a1 a2 : Int32), Rel σx σm → ∃ (r : Int32) (σx' : fr_St) (σm' : fr_St), zX9_type σx a1 a2 = some (r, σx') ∧ zX10_type σm a1 a2 = some (r, σm') ∧ Rel σx' σm'
set_option maxRecDepth 100000 in
set_option maxHeartbeats 4000000 in
theorem lc_type (hgX : ∀ σm, fr_ok g (fr_wX D cs A adx adm σm) fr_shX code 4 RL 9 332) (hgM : ∀ σx, fr_ok g (fr_wM D cs A adx adm σx) fr_shM code 4 RL 9 332) (hX : va_X b L xs g.2.2.2.2.1 g.2.2.2.2.1.heap) (hbl : b < g.2.2.2.2.1.heap.size) (hbA : ¬ A b) (hj : j + 6 ≤ L ∧ L < 2 ^ 31) (hs : sm_type Rel) (hR : Rel σx σm) (ih : ∀ σx σm, Rel σx σm → fr_K g (fr_wX D cs A adx adm σm) 4 1449 [(0, .ref b), (1, .ref (adx 0)), (2, .ref (adm 0)), (3, .int (nI j))] [] σx) : fr_K g (fr_wX D cs A adx adm σm) 4 196 [(0, .ref b), (1, .ref (adx 0)), (2, .ref (adm 0)), (3, .int (nI j))] [] σx := by
  obtain ⟨r, σx', σm', e1, e2, e3⟩ := hs σx σm (xs (j + 1)) (xs (j + 2)) hR
  refine fr_kV (fr_aload_n (hgX σm) 1 rfl dL_law_196 rfl (fr_Vk ?_))
  refine fr_kV (fr_aload_n (hgX σm) 0 rfl dL_law_197 rfl (fr_Vk ?_))
  refine fr_kV (fr_iload_n (hgX σm) 3 rfl dL_law_198 rfl (fr_Vk ?_))
  refine fr_kV (fr_iconst (hgX σm) (v := 1) (by decide) dL_law_199 rfl (fr_Vk ?_))
  refine fr_kV (fr_iadd (hgX σm) dL_law_200 rfl (fr_Vk ?_))
  refine fr_ksld (hgX σm) hX hbl hbA (nI_add j 1) (by omega) dL_law_201 rfl ?_
  refine fr_kV (fr_aload_n (hgX σm) 0 rfl dL_law_202 rfl (fr_Vk ?_))
  refine fr_kV (fr_iload_n (hgX σm) 3 rfl dL_law_203 rfl (fr_Vk ?_))
  refine fr_kV (fr_iconst (hgX σm) (v := 2) (by decide) dL_law_204 rfl (fr_Vk ?_))
  refine fr_kV (fr_iadd (hgX σm) dL_law_205 rfl (fr_Vk ?_))
  refine fr_ksld (hgX σm) hX hbl hbA (nI_add j 2) (by omega) dL_law_206 rfl ?_
  refine fr_kci2 (hgX σm) (mX9_type (xs (j + 1)) (xs (j + 2))) (fr_crV (hgX σm) (q := 0) mo_L_13 rfl ⟨_, _, rfl⟩ rfl (by decide) (by decide) (Nat.le_of_ble_eq_true rfl) dL_law_207 rfl) e1 rfl ?_
  refine fr_kV (fr_aload_n (hgX σm) 2 rfl dL_law_210 rfl (fr_Vk ?_))
  refine fr_kV (fr_aload_n (hgX σm) 0 rfl dL_law_211 rfl (fr_Vk ?_))
  refine fr_kV (fr_iload_n (hgX σm) 3 rfl dL_law_212 rfl (fr_Vk ?_))
  refine fr_kV (fr_iconst (hgX σm) (v := 1) (by decide) dL_law_213 rfl (fr_Vk ?_))
  refine fr_kV (fr_iadd (hgX σm) dL_law_214 rfl (fr_Vk ?_))
  refine fr_ksld (hgX σm) hX hbl hbA (nI_add j 1) (by omega) dL_law_215 rfl ?_
  refine fr_kV (fr_aload_n (hgX σm) 0 rfl dL_law_216 rfl (fr_Vk ?_))
  refine fr_kV (fr_iload_n (hgX σm) 3 rfl dL_law_217 rfl (fr_Vk ?_))
  refine fr_kV (fr_iconst (hgX σm) (v := 2) (by decide) dL_law_218 rfl (fr_Vk ?_))
  refine fr_kV (fr_iadd (hgX σm) dL_law_219 rfl (fr_Vk ?_))
  refine fr_ksld (hgX σm) hX hbl hbA (nI_add j 2) (by omega) dL_law_220 rfl ?_
  refine fr_swap ?_
  refine fr_kci2 (hgM σx') (mX10_type (xs (j + 1)) (xs (j + 2))) (fr_crV (hgM σx') (q := 0) mo_L_17 rfl ⟨_, _, rfl⟩ rfl (by decide) (by decide) (Nat.le_of_ble_eq_true rfl) dL_law_221 rfl) e2 rfl ?_
  refine fr_swap2 ?_
  exact fr_keq (hgX σm') rfl dL_law_224 (by decide) (ih σx' σm' e3)
def sm_wipe (Rel : fr_St → fr_St → Prop) : Prop := ∀ (σx σm : fr_St) (a1 : Int32), Rel σx σm → ∃ (r : Int32) (σx' : fr_St) (σm' : fr_St), zX9_wipe σx a1 = some (r, σx') ∧ zX10_wipe σm a1 = some (r, σm') ∧ Rel σx' σm'
set_option maxRecDepth 100000 in
set_option maxHeartbeats 4000000 in
theorem lc_wipe (hgX : ∀ σm, fr_ok g (fr_wX D cs A adx adm σm) fr_shX code 4 RL 9 332) (hgM : ∀ σx, fr_ok g (fr_wM D cs A adx adm σx) fr_shM code 4 RL 9 332) (hX : va_X b L xs g.2.2.2.2.1 g.2.2.2.2.1.heap) (hbl : b < g.2.2.2.2.1.heap.size) (hbA : ¬ A b) (hj : j + 6 ≤ L ∧ L < 2 ^ 31) (hs : sm_wipe Rel) (hR : Rel σx σm) (ih : ∀ σx σm, Rel σx σm → fr_K g (fr_wX D cs A adx adm σm) 4 1449 [(0, .ref b), (1, .ref (adx 0)), (2, .ref (adm 0)), (3, .int (nI j))] [] σx) : fr_K g (fr_wX D cs A adx adm σm) 4 229 [(0, .ref b), (1, .ref (adx 0)), (2, .ref (adm 0)), (3, .int (nI j))] [] σx := by
  obtain ⟨r, σx', σm', e1, e2, e3⟩ := hs σx σm (xs (j + 1)) hR
  refine fr_kV (fr_aload_n (hgX σm) 1 rfl dL_law_229 rfl (fr_Vk ?_))
  refine fr_kV (fr_aload_n (hgX σm) 0 rfl dL_law_230 rfl (fr_Vk ?_))
  refine fr_kV (fr_iload_n (hgX σm) 3 rfl dL_law_231 rfl (fr_Vk ?_))
  refine fr_kV (fr_iconst (hgX σm) (v := 1) (by decide) dL_law_232 rfl (fr_Vk ?_))
  refine fr_kV (fr_iadd (hgX σm) dL_law_233 rfl (fr_Vk ?_))
  refine fr_ksld (hgX σm) hX hbl hbA (nI_add j 1) (by omega) dL_law_234 rfl ?_
  refine fr_kci2 (hgX σm) (mX9_wipe (xs (j + 1))) (fr_crV (hgX σm) (q := 0) mo_L_18 rfl ⟨_, _, rfl⟩ rfl (by decide) (by decide) (Nat.le_of_ble_eq_true rfl) dL_law_235 rfl) e1 rfl ?_
  refine fr_kV (fr_aload_n (hgX σm) 2 rfl dL_law_238 rfl (fr_Vk ?_))
  refine fr_kV (fr_aload_n (hgX σm) 0 rfl dL_law_239 rfl (fr_Vk ?_))
  refine fr_kV (fr_iload_n (hgX σm) 3 rfl dL_law_240 rfl (fr_Vk ?_))
  refine fr_kV (fr_iconst (hgX σm) (v := 1) (by decide) dL_law_241 rfl (fr_Vk ?_))
  refine fr_kV (fr_iadd (hgX σm) dL_law_242 rfl (fr_Vk ?_))
  refine fr_ksld (hgX σm) hX hbl hbA (nI_add j 1) (by omega) dL_law_243 rfl ?_
  refine fr_swap ?_
  refine fr_kci2 (hgM σx') (mX10_wipe (xs (j + 1))) (fr_crV (hgM σx') (q := 0) mo_L_22 rfl ⟨_, _, rfl⟩ rfl (by decide) (by decide) (Nat.le_of_ble_eq_true rfl) dL_law_244 rfl) e2 rfl ?_
  refine fr_swap2 ?_
  exact fr_keq (hgX σm') rfl dL_law_247 (by decide) (ih σx' σm' e3)
def sm_undo (Rel : fr_St → fr_St → Prop) : Prop := ∀ (σx σm : fr_St) (a1 : Int32), Rel σx σm → ∃ (r : Int32) (σx' : fr_St) (σm' : fr_St), zX9_undo σx a1 = some (r, σx') ∧ zX10_undo σm a1 = some (r, σm') ∧ Rel σx' σm'
set_option maxRecDepth 100000 in
set_option maxHeartbeats 4000000 in
theorem lc_undo (hgX : ∀ σm, fr_ok g (fr_wX D cs A adx adm σm) fr_shX code 4 RL 9 332) (hgM : ∀ σx, fr_ok g (fr_wM D cs A adx adm σx) fr_shM code 4 RL 9 332) (hX : va_X b L xs g.2.2.2.2.1 g.2.2.2.2.1.heap) (hbl : b < g.2.2.2.2.1.heap.size) (hbA : ¬ A b) (hj : j + 6 ≤ L ∧ L < 2 ^ 31) (hs : sm_undo Rel) (hR : Rel σx σm) (ih : ∀ σx σm, Rel σx σm → fr_K g (fr_wX D cs A adx adm σm) 4 1449 [(0, .ref b), (1, .ref (adx 0)), (2, .ref (adm 0)), (3, .int (nI j))] [] σx) : fr_K g (fr_wX D cs A adx adm σm) 4 252 [(0, .ref b), (1, .ref (adx 0)), (2, .ref (adm 0)), (3, .int (nI j))] [] σx := by
  obtain ⟨r, σx', σm', e1, e2, e3⟩ := hs σx σm (xs (j + 1)) hR
  refine fr_kV (fr_aload_n (hgX σm) 1 rfl dL_law_252 rfl (fr_Vk ?_))
  refine fr_kV (fr_aload_n (hgX σm) 0 rfl dL_law_253 rfl (fr_Vk ?_))
  refine fr_kV (fr_iload_n (hgX σm) 3 rfl dL_law_254 rfl (fr_Vk ?_))
  refine fr_kV (fr_iconst (hgX σm) (v := 1) (by decide) dL_law_255 rfl (fr_Vk ?_))
  refine fr_kV (fr_iadd (hgX σm) dL_law_256 rfl (fr_Vk ?_))
  refine fr_ksld (hgX σm) hX hbl hbA (nI_add j 1) (by omega) dL_law_257 rfl ?_
  refine fr_kci2 (hgX σm) (mX9_undo (xs (j + 1))) (fr_crV (hgX σm) (q := 0) mo_L_23 rfl ⟨_, _, rfl⟩ rfl (by decide) (by decide) (Nat.le_of_ble_eq_true rfl) dL_law_258 rfl) e1 rfl ?_
  refine fr_kV (fr_aload_n (hgX σm) 2 rfl dL_law_261 rfl (fr_Vk ?_))
  refine fr_kV (fr_aload_n (hgX σm) 0 rfl dL_law_262 rfl (fr_Vk ?_))
  refine fr_kV (fr_iload_n (hgX σm) 3 rfl dL_law_263 rfl (fr_Vk ?_))
  refine fr_kV (fr_iconst (hgX σm) (v := 1) (by decide) dL_law_264 rfl (fr_Vk ?_))
  refine fr_kV (fr_iadd (hgX σm) dL_law_265 rfl (fr_Vk ?_))
  refine fr_ksld (hgX σm) hX hbl hbA (nI_add j 1) (by omega) dL_law_266 rfl ?_
  refine fr_swap ?_
  refine fr_kci2 (hgM σx') (mX10_undo (xs (j + 1))) (fr_crV (hgM σx') (q := 0) mo_L_26 rfl ⟨_, _, rfl⟩ rfl (by decide) (by decide) (Nat.le_of_ble_eq_true rfl) dL_law_267 rfl) e2 rfl ?_
  refine fr_swap2 ?_
  exact fr_keq (hgX σm') rfl dL_law_270 (by decide) (ih σx' σm' e3)
def sm_fault (Rel : fr_St → fr_St → Prop) : Prop := ∀ (σx σm : fr_St) (a1 : Int32), Rel σx σm → ∃ (r : Int32) (σm' : fr_St), zX9_fault σx a1 = r ∧ zX10_fault σm a1 = some (r, σm') ∧ Rel σx σm'
set_option maxRecDepth 100000 in
set_option maxHeartbeats 4000000 in
theorem lc_fault (hgX : ∀ σm, fr_ok g (fr_wX D cs A adx adm σm) fr_shX code 4 RL 9 332) (hgM : ∀ σx, fr_ok g (fr_wM D cs A adx adm σx) fr_shM code 4 RL 9 332) (hX : va_X b L xs g.2.2.2.2.1 g.2.2.2.2.1.heap) (hbl : b < g.2.2.2.2.1.heap.size) (hbA : ¬ A b) (hj : j + 6 ≤ L ∧ L < 2 ^ 31) (hs : sm_fault Rel) (hR : Rel σx σm) (ih : ∀ σx σm, Rel σx σm → fr_K g (fr_wX D cs A adx adm σm) 4 1449 [(0, .ref b), (1, .ref (adx 0)), (2, .ref (adm 0)), (3, .int (nI j))] [] σx) : fr_K g (fr_wX D cs A adx adm σm) 4 275 [(0, .ref b), (1, .ref (adx 0)), (2, .ref (adm 0)), (3, .int (nI j))] [] σx := by
  obtain ⟨r, σm', e1, e2, e3⟩ := hs σx σm (xs (j + 1)) hR
  refine fr_kV (fr_aload_n (hgX σm) 1 rfl dL_law_275 rfl (fr_Vk ?_))
  refine fr_kV (fr_aload_n (hgX σm) 0 rfl dL_law_276 rfl (fr_Vk ?_))
  refine fr_kV (fr_iload_n (hgX σm) 3 rfl dL_law_277 rfl (fr_Vk ?_))
  refine fr_kV (fr_iconst (hgX σm) (v := 1) (by decide) dL_law_278 rfl (fr_Vk ?_))
  refine fr_kV (fr_iadd (hgX σm) dL_law_279 rfl (fr_Vk ?_))
  refine fr_ksld (hgX σm) hX hbl hbA (nI_add j 1) (by omega) dL_law_280 rfl ?_
  refine fr_kci0 (hgX σm) (mX9_fault (xs (j + 1))) (fr_crV (hgX σm) (q := 0) mo_L_27 rfl ⟨_, _, rfl⟩ rfl (by decide) (by decide) (Nat.le_of_ble_eq_true rfl) dL_law_281 rfl) e1 rfl ?_
  refine fr_kV (fr_aload_n (hgX σm) 2 rfl dL_law_284 rfl (fr_Vk ?_))
  refine fr_kV (fr_aload_n (hgX σm) 0 rfl dL_law_285 rfl (fr_Vk ?_))
  refine fr_kV (fr_iload_n (hgX σm) 3 rfl dL_law_286 rfl (fr_Vk ?_))
  refine fr_kV (fr_iconst (hgX σm) (v := 1) (by decide) dL_law_287 rfl (fr_Vk ?_))
  refine fr_kV (fr_iadd (hgX σm) dL_law_288 rfl (fr_Vk ?_))
  refine fr_ksld (hgX σm) hX hbl hbA (nI_add j 1) (by omega) dL_law_289 rfl ?_
  refine fr_swap ?_
  refine fr_kci2 (hgM σx) (mX10_fault (xs (j + 1))) (fr_crV (hgM σx) (q := 0) mo_L_30 rfl ⟨_, _, rfl⟩ rfl (by decide) (by decide) (Nat.le_of_ble_eq_true rfl) dL_law_290 rfl) e2 rfl ?_
  refine fr_swap2 ?_
  exact fr_keq (hgX σm') rfl dL_law_293 (by decide) (ih σx σm' e3)
def sm_tool (Rel : fr_St → fr_St → Prop) : Prop := ∀ (σx σm : fr_St) (a1 a2 a3 : Int32), Rel σx σm → ∃ (r : Int32) (σx' : fr_St) (σm' : fr_St), zX9_tool σx a1 a2 a3 = some (r, σx') ∧ zX10_tool σm a1 a2 a3 = some (r, σm') ∧ Rel σx' σm'
set_option maxRecDepth 100000 in
set_option maxHeartbeats 4000000 in
theorem lc_tool (hgX : ∀ σm, fr_ok g (fr_wX D cs A adx adm σm) fr_shX code 4 RL 9 332) (hgM : ∀ σx, fr_ok g (fr_wM D cs A adx adm σx) fr_shM code 4 RL 9 332) (hX : va_X b L xs g.2.2.2.2.1 g.2.2.2.2.1.heap) (hbl : b < g.2.2.2.2.1.heap.size) (hbA : ¬ A b) (hj : j + 6 ≤ L ∧ L < 2 ^ 31) (hs : sm_tool Rel) (hR : Rel σx σm) (ih : ∀ σx σm, Rel σx σm → fr_K g (fr_wX D cs A adx adm σm) 4 1449 [(0, .ref b), (1, .ref (adx 0)), (2, .ref (adm 0)), (3, .int (nI j))] [] σx) : fr_K g (fr_wX D cs A adx adm σm) 4 298 [(0, .ref b), (1, .ref (adx 0)), (2, .ref (adm 0)), (3, .int (nI j))] [] σx := by
  obtain ⟨r, σx', σm', e1, e2, e3⟩ := hs σx σm (xs (j + 1)) (xs (j + 2)) (xs (j + 3)) hR
  refine fr_kV (fr_aload_n (hgX σm) 1 rfl dL_law_298 rfl (fr_Vk ?_))
  refine fr_kV (fr_aload_n (hgX σm) 0 rfl dL_law_299 rfl (fr_Vk ?_))
  refine fr_kV (fr_iload_n (hgX σm) 3 rfl dL_law_300 rfl (fr_Vk ?_))
  refine fr_kV (fr_iconst (hgX σm) (v := 1) (by decide) dL_law_301 rfl (fr_Vk ?_))
  refine fr_kV (fr_iadd (hgX σm) dL_law_302 rfl (fr_Vk ?_))
  refine fr_ksld (hgX σm) hX hbl hbA (nI_add j 1) (by omega) dL_law_303 rfl ?_
  refine fr_kV (fr_aload_n (hgX σm) 0 rfl dL_law_304 rfl (fr_Vk ?_))
  refine fr_kV (fr_iload_n (hgX σm) 3 rfl dL_law_305 rfl (fr_Vk ?_))
  refine fr_kV (fr_iconst (hgX σm) (v := 2) (by decide) dL_law_306 rfl (fr_Vk ?_))
  refine fr_kV (fr_iadd (hgX σm) dL_law_307 rfl (fr_Vk ?_))
  refine fr_ksld (hgX σm) hX hbl hbA (nI_add j 2) (by omega) dL_law_308 rfl ?_
  refine fr_kV (fr_aload_n (hgX σm) 0 rfl dL_law_309 rfl (fr_Vk ?_))
  refine fr_kV (fr_iload_n (hgX σm) 3 rfl dL_law_310 rfl (fr_Vk ?_))
  refine fr_kV (fr_iconst (hgX σm) (v := 3) (by decide) dL_law_311 rfl (fr_Vk ?_))
  refine fr_kV (fr_iadd (hgX σm) dL_law_312 rfl (fr_Vk ?_))
  refine fr_ksld (hgX σm) hX hbl hbA (nI_add j 3) (by omega) dL_law_313 rfl ?_
  refine fr_kci2 (hgX σm) (mX9_tool (xs (j + 1)) (xs (j + 2)) (xs (j + 3))) (fr_crV (hgX σm) (q := 0) mo_L_31 rfl ⟨_, _, rfl⟩ rfl (by decide) (by decide) (Nat.le_of_ble_eq_true rfl) dL_law_314 rfl) e1 rfl ?_
  refine fr_kV (fr_aload_n (hgX σm) 2 rfl dL_law_317 rfl (fr_Vk ?_))
  refine fr_kV (fr_aload_n (hgX σm) 0 rfl dL_law_318 rfl (fr_Vk ?_))
  refine fr_kV (fr_iload_n (hgX σm) 3 rfl dL_law_319 rfl (fr_Vk ?_))
  refine fr_kV (fr_iconst (hgX σm) (v := 1) (by decide) dL_law_320 rfl (fr_Vk ?_))
  refine fr_kV (fr_iadd (hgX σm) dL_law_321 rfl (fr_Vk ?_))
  refine fr_ksld (hgX σm) hX hbl hbA (nI_add j 1) (by omega) dL_law_322 rfl ?_
  refine fr_kV (fr_aload_n (hgX σm) 0 rfl dL_law_323 rfl (fr_Vk ?_))
  refine fr_kV (fr_iload_n (hgX σm) 3 rfl dL_law_324 rfl (fr_Vk ?_))
  refine fr_kV (fr_iconst (hgX σm) (v := 2) (by decide) dL_law_325 rfl (fr_Vk ?_))
  refine fr_kV (fr_iadd (hgX σm) dL_law_326 rfl (fr_Vk ?_))
  refine fr_ksld (hgX σm) hX hbl hbA (nI_add j 2) (by omega) dL_law_327 rfl ?_
  refine fr_kV (fr_aload_n (hgX σm) 0 rfl dL_law_328 rfl (fr_Vk ?_))
  refine fr_kV (fr_iload_n (hgX σm) 3 rfl dL_law_329 rfl (fr_Vk ?_))
  refine fr_kV (fr_iconst (hgX σm) (v := 3) (by decide) dL_law_330 rfl (fr_Vk ?_))
  refine fr_kV (fr_iadd (hgX σm) dL_law_331 rfl (fr_Vk ?_))
  refine fr_ksld (hgX σm) hX hbl hbA (nI_add j 3) (by omega) dL_law_332 rfl ?_
  refine fr_swap ?_
  refine fr_kci2 (hgM σx') (mX10_tool (xs (j + 1)) (xs (j + 2)) (xs (j + 3))) (fr_crV (hgM σx') (q := 0) mo_L_35 rfl ⟨_, _, rfl⟩ rfl (by decide) (by decide) (Nat.le_of_ble_eq_true rfl) dL_law_333 rfl) e2 rfl ?_
  refine fr_swap2 ?_
  exact fr_keq (hgX σm') rfl dL_law_336 (by decide) (ih σx' σm' e3)
def sm_looks (Rel : fr_St → fr_St → Prop) : Prop := ∀ (σx σm : fr_St) (a1 a2 a3 : Int32), Rel σx σm → ∃ (r : Int32) (σx' : fr_St) (σm' : fr_St), zX9_looks σx a1 a2 a3 = some (r, σx') ∧ zX10_looks σm a1 a2 a3 = some (r, σm') ∧ Rel σx' σm'
set_option maxRecDepth 100000 in
set_option maxHeartbeats 4000000 in
theorem lc_looks (hgX : ∀ σm, fr_ok g (fr_wX D cs A adx adm σm) fr_shX code 4 RL 9 332) (hgM : ∀ σx, fr_ok g (fr_wM D cs A adx adm σx) fr_shM code 4 RL 9 332) (hX : va_X b L xs g.2.2.2.2.1 g.2.2.2.2.1.heap) (hbl : b < g.2.2.2.2.1.heap.size) (hbA : ¬ A b) (hj : j + 6 ≤ L ∧ L < 2 ^ 31) (hs : sm_looks Rel) (hR : Rel σx σm) (ih : ∀ σx σm, Rel σx σm → fr_K g (fr_wX D cs A adx adm σm) 4 1449 [(0, .ref b), (1, .ref (adx 0)), (2, .ref (adm 0)), (3, .int (nI j))] [] σx) : fr_K g (fr_wX D cs A adx adm σm) 4 341 [(0, .ref b), (1, .ref (adx 0)), (2, .ref (adm 0)), (3, .int (nI j))] [] σx := by
  obtain ⟨r, σx', σm', e1, e2, e3⟩ := hs σx σm (xs (j + 1)) (xs (j + 2)) (xs (j + 3)) hR
  refine fr_kV (fr_aload_n (hgX σm) 1 rfl dL_law_341 rfl (fr_Vk ?_))
  refine fr_kV (fr_aload_n (hgX σm) 0 rfl dL_law_342 rfl (fr_Vk ?_))
  refine fr_kV (fr_iload_n (hgX σm) 3 rfl dL_law_343 rfl (fr_Vk ?_))
  refine fr_kV (fr_iconst (hgX σm) (v := 1) (by decide) dL_law_344 rfl (fr_Vk ?_))
  refine fr_kV (fr_iadd (hgX σm) dL_law_345 rfl (fr_Vk ?_))
  refine fr_ksld (hgX σm) hX hbl hbA (nI_add j 1) (by omega) dL_law_346 rfl ?_
  refine fr_kV (fr_aload_n (hgX σm) 0 rfl dL_law_347 rfl (fr_Vk ?_))
  refine fr_kV (fr_iload_n (hgX σm) 3 rfl dL_law_348 rfl (fr_Vk ?_))
  refine fr_kV (fr_iconst (hgX σm) (v := 2) (by decide) dL_law_349 rfl (fr_Vk ?_))
  refine fr_kV (fr_iadd (hgX σm) dL_law_350 rfl (fr_Vk ?_))
  refine fr_ksld (hgX σm) hX hbl hbA (nI_add j 2) (by omega) dL_law_351 rfl ?_
  refine fr_kV (fr_aload_n (hgX σm) 0 rfl dL_law_352 rfl (fr_Vk ?_))
  refine fr_kV (fr_iload_n (hgX σm) 3 rfl dL_law_353 rfl (fr_Vk ?_))
  refine fr_kV (fr_iconst (hgX σm) (v := 3) (by decide) dL_law_354 rfl (fr_Vk ?_))
  refine fr_kV (fr_iadd (hgX σm) dL_law_355 rfl (fr_Vk ?_))
  refine fr_ksld (hgX σm) hX hbl hbA (nI_add j 3) (by omega) dL_law_356 rfl ?_
  refine fr_kci2 (hgX σm) (mX9_looks (xs (j + 1)) (xs (j + 2)) (xs (j + 3))) (fr_crV (hgX σm) (q := 0) mo_L_36 rfl ⟨_, _, rfl⟩ rfl (by decide) (by decide) (Nat.le_of_ble_eq_true rfl) dL_law_357 rfl) e1 rfl ?_
  refine fr_kV (fr_aload_n (hgX σm) 2 rfl dL_law_360 rfl (fr_Vk ?_))
  refine fr_kV (fr_aload_n (hgX σm) 0 rfl dL_law_361 rfl (fr_Vk ?_))
  refine fr_kV (fr_iload_n (hgX σm) 3 rfl dL_law_362 rfl (fr_Vk ?_))
  refine fr_kV (fr_iconst (hgX σm) (v := 1) (by decide) dL_law_363 rfl (fr_Vk ?_))
  refine fr_kV (fr_iadd (hgX σm) dL_law_364 rfl (fr_Vk ?_))
  refine fr_ksld (hgX σm) hX hbl hbA (nI_add j 1) (by omega) dL_law_365 rfl ?_
  refine fr_kV (fr_aload_n (hgX σm) 0 rfl dL_law_366 rfl (fr_Vk ?_))
  refine fr_kV (fr_iload_n (hgX σm) 3 rfl dL_law_367 rfl (fr_Vk ?_))
  refine fr_kV (fr_iconst (hgX σm) (v := 2) (by decide) dL_law_368 rfl (fr_Vk ?_))
  refine fr_kV (fr_iadd (hgX σm) dL_law_369 rfl (fr_Vk ?_))
  refine fr_ksld (hgX σm) hX hbl hbA (nI_add j 2) (by omega) dL_law_370 rfl ?_
  refine fr_kV (fr_aload_n (hgX σm) 0 rfl dL_law_371 rfl (fr_Vk ?_))
  refine fr_kV (fr_iload_n (hgX σm) 3 rfl dL_law_372 rfl (fr_Vk ?_))
  refine fr_kV (fr_iconst (hgX σm) (v := 3) (by decide) dL_law_373 rfl (fr_Vk ?_))
  refine fr_kV (fr_iadd (hgX σm) dL_law_374 rfl (fr_Vk ?_))
  refine fr_ksld (hgX σm) hX hbl hbA (nI_add j 3) (by omega) dL_law_375 rfl ?_
  refine fr_swap ?_
  refine fr_kci2 (hgM σx') (mX10_looks (xs (j + 1)) (xs (j + 2)) (xs (j + 3))) (fr_crV (hgM σx') (q := 0) mo_L_39 rfl ⟨_, _, rfl⟩ rfl (by decide) (by decide) (Nat.le_of_ble_eq_true rfl) dL_law_376 rfl) e2 rfl ?_
  refine fr_swap2 ?_
  exact fr_keq (hgX σm') rfl dL_law_379 (by decide) (ih σx' σm' e3)
def sm_read (Rel : fr_St → fr_St → Prop) : Prop := ∀ (σx σm : fr_St) (a1 a2 : Int32), Rel σx σm → ∃ (r : Int32) (σx' : fr_St) (σm' : fr_St), zX9_read σx a1 a2 = some (r, σx') ∧ zX10_read σm a1 a2 = some (r, σm') ∧ Rel σx' σm'
set_option maxRecDepth 100000 in
set_option maxHeartbeats 4000000 in
theorem lc_read (hgX : ∀ σm, fr_ok g (fr_wX D cs A adx adm σm) fr_shX code 4 RL 9 332) (hgM : ∀ σx, fr_ok g (fr_wM D cs A adx adm σx) fr_shM code 4 RL 9 332) (hX : va_X b L xs g.2.2.2.2.1 g.2.2.2.2.1.heap) (hbl : b < g.2.2.2.2.1.heap.size) (hbA : ¬ A b) (hj : j + 6 ≤ L ∧ L < 2 ^ 31) (hs : sm_read Rel) (hR : Rel σx σm) (ih : ∀ σx σm, Rel σx σm → fr_K g (fr_wX D cs A adx adm σm) 4 1449 [(0, .ref b), (1, .ref (adx 0)), (2, .ref (adm 0)), (3, .int (nI j))] [] σx) : fr_K g (fr_wX D cs A adx adm σm) 4 384 [(0, .ref b), (1, .ref (adx 0)), (2, .ref (adm 0)), (3, .int (nI j))] [] σx := by
  obtain ⟨r, σx', σm', e1, e2, e3⟩ := hs σx σm (xs (j + 1)) (xs (j + 2)) hR
  refine fr_kV (fr_aload_n (hgX σm) 1 rfl dL_law_384 rfl (fr_Vk ?_))
  refine fr_kV (fr_aload_n (hgX σm) 0 rfl dL_law_385 rfl (fr_Vk ?_))
  refine fr_kV (fr_iload_n (hgX σm) 3 rfl dL_law_386 rfl (fr_Vk ?_))
  refine fr_kV (fr_iconst (hgX σm) (v := 1) (by decide) dL_law_387 rfl (fr_Vk ?_))
  refine fr_kV (fr_iadd (hgX σm) dL_law_388 rfl (fr_Vk ?_))
  refine fr_ksld (hgX σm) hX hbl hbA (nI_add j 1) (by omega) dL_law_389 rfl ?_
  refine fr_kV (fr_aload_n (hgX σm) 0 rfl dL_law_390 rfl (fr_Vk ?_))
  refine fr_kV (fr_iload_n (hgX σm) 3 rfl dL_law_391 rfl (fr_Vk ?_))
  refine fr_kV (fr_iconst (hgX σm) (v := 2) (by decide) dL_law_392 rfl (fr_Vk ?_))
  refine fr_kV (fr_iadd (hgX σm) dL_law_393 rfl (fr_Vk ?_))
  refine fr_ksld (hgX σm) hX hbl hbA (nI_add j 2) (by omega) dL_law_394 rfl ?_
  refine fr_kci2 (hgX σm) (mX9_read (xs (j + 1)) (xs (j + 2))) (fr_crV (hgX σm) (q := 0) mo_L_40 rfl ⟨_, _, rfl⟩ rfl (by decide) (by decide) (Nat.le_of_ble_eq_true rfl) dL_law_395 rfl) e1 rfl ?_
  refine fr_kV (fr_aload_n (hgX σm) 2 rfl dL_law_398 rfl (fr_Vk ?_))
  refine fr_kV (fr_aload_n (hgX σm) 0 rfl dL_law_399 rfl (fr_Vk ?_))
  refine fr_kV (fr_iload_n (hgX σm) 3 rfl dL_law_400 rfl (fr_Vk ?_))
  refine fr_kV (fr_iconst (hgX σm) (v := 1) (by decide) dL_law_401 rfl (fr_Vk ?_))
  refine fr_kV (fr_iadd (hgX σm) dL_law_402 rfl (fr_Vk ?_))
  refine fr_ksld (hgX σm) hX hbl hbA (nI_add j 1) (by omega) dL_law_403 rfl ?_
  refine fr_kV (fr_aload_n (hgX σm) 0 rfl dL_law_404 rfl (fr_Vk ?_))
  refine fr_kV (fr_iload_n (hgX σm) 3 rfl dL_law_405 rfl (fr_Vk ?_))
  refine fr_kV (fr_iconst (hgX σm) (v := 2) (by decide) dL_law_406 rfl (fr_Vk ?_))
  refine fr_kV (fr_iadd (hgX σm) dL_law_407 rfl (fr_Vk ?_))
  refine fr_ksld (hgX σm) hX hbl hbA (nI_add j 2) (by omega) dL_law_408 rfl ?_
  refine fr_swap ?_
  refine fr_kci2 (hgM σx') (mX10_read (xs (j + 1)) (xs (j + 2))) (fr_crV (hgM σx') (q := 0) mo_L_43 rfl ⟨_, _, rfl⟩ rfl (by decide) (by decide) (Nat.le_of_ble_eq_true rfl) dL_law_409 rfl) e2 rfl ?_
  refine fr_swap2 ?_
  exact fr_keq (hgX σm') rfl dL_law_412 (by decide) (ih σx' σm' e3)
def sm_stroke (Rel : fr_St → fr_St → Prop) : Prop := ∀ (σx σm : fr_St) (a1 a2 : Int32), Rel σx σm → ∃ (r : Int32) (σx' : fr_St) (σm' : fr_St), zX9_stroke σx a1 a2 = some (r, σx') ∧ zX10_stroke σm a1 a2 = some (r, σm') ∧ Rel σx' σm'
set_option maxRecDepth 100000 in
set_option maxHeartbeats 4000000 in
theorem lc_stroke (hgX : ∀ σm, fr_ok g (fr_wX D cs A adx adm σm) fr_shX code 4 RL 9 332) (hgM : ∀ σx, fr_ok g (fr_wM D cs A adx adm σx) fr_shM code 4 RL 9 332) (hX : va_X b L xs g.2.2.2.2.1 g.2.2.2.2.1.heap) (hbl : b < g.2.2.2.2.1.heap.size) (hbA : ¬ A b) (hj : j + 6 ≤ L ∧ L < 2 ^ 31) (hs : sm_stroke Rel) (hR : Rel σx σm) (ih : ∀ σx σm, Rel σx σm → fr_K g (fr_wX D cs A adx adm σm) 4 1449 [(0, .ref b), (1, .ref (adx 0)), (2, .ref (adm 0)), (3, .int (nI j))] [] σx) : fr_K g (fr_wX D cs A adx adm σm) 4 417 [(0, .ref b), (1, .ref (adx 0)), (2, .ref (adm 0)), (3, .int (nI j))] [] σx := by
  obtain ⟨r, σx', σm', e1, e2, e3⟩ := hs σx σm (xs (j + 1)) (xs (j + 2)) hR
  refine fr_kV (fr_aload_n (hgX σm) 1 rfl dL_law_417 rfl (fr_Vk ?_))
  refine fr_kV (fr_aload_n (hgX σm) 0 rfl dL_law_418 rfl (fr_Vk ?_))
  refine fr_kV (fr_iload_n (hgX σm) 3 rfl dL_law_419 rfl (fr_Vk ?_))
  refine fr_kV (fr_iconst (hgX σm) (v := 1) (by decide) dL_law_420 rfl (fr_Vk ?_))
  refine fr_kV (fr_iadd (hgX σm) dL_law_421 rfl (fr_Vk ?_))
  refine fr_ksld (hgX σm) hX hbl hbA (nI_add j 1) (by omega) dL_law_422 rfl ?_
  refine fr_kV (fr_aload_n (hgX σm) 0 rfl dL_law_423 rfl (fr_Vk ?_))
  refine fr_kV (fr_iload_n (hgX σm) 3 rfl dL_law_424 rfl (fr_Vk ?_))
  refine fr_kV (fr_iconst (hgX σm) (v := 2) (by decide) dL_law_425 rfl (fr_Vk ?_))
  refine fr_kV (fr_iadd (hgX σm) dL_law_426 rfl (fr_Vk ?_))
  refine fr_ksld (hgX σm) hX hbl hbA (nI_add j 2) (by omega) dL_law_427 rfl ?_
  refine fr_kci2 (hgX σm) (mX9_stroke (xs (j + 1)) (xs (j + 2))) (fr_crV (hgX σm) (q := 0) mo_L_44 rfl ⟨_, _, rfl⟩ rfl (by decide) (by decide) (Nat.le_of_ble_eq_true rfl) dL_law_428 rfl) e1 rfl ?_
  refine fr_kV (fr_aload_n (hgX σm) 2 rfl dL_law_431 rfl (fr_Vk ?_))
  refine fr_kV (fr_aload_n (hgX σm) 0 rfl dL_law_432 rfl (fr_Vk ?_))
  refine fr_kV (fr_iload_n (hgX σm) 3 rfl dL_law_433 rfl (fr_Vk ?_))
  refine fr_kV (fr_iconst (hgX σm) (v := 1) (by decide) dL_law_434 rfl (fr_Vk ?_))
  refine fr_kV (fr_iadd (hgX σm) dL_law_435 rfl (fr_Vk ?_))
  refine fr_ksld (hgX σm) hX hbl hbA (nI_add j 1) (by omega) dL_law_436 rfl ?_
  refine fr_kV (fr_aload_n (hgX σm) 0 rfl dL_law_437 rfl (fr_Vk ?_))
  refine fr_kV (fr_iload_n (hgX σm) 3 rfl dL_law_438 rfl (fr_Vk ?_))
  refine fr_kV (fr_iconst (hgX σm) (v := 2) (by decide) dL_law_439 rfl (fr_Vk ?_))
  refine fr_kV (fr_iadd (hgX σm) dL_law_440 rfl (fr_Vk ?_))
  refine fr_ksld (hgX σm) hX hbl hbA (nI_add j 2) (by omega) dL_law_441 rfl ?_
  refine fr_swap ?_
  refine fr_kci2 (hgM σx') (mX10_stroke (xs (j + 1)) (xs (j + 2))) (fr_crV (hgM σx') (q := 0) mo_L_47 rfl ⟨_, _, rfl⟩ rfl (by decide) (by decide) (Nat.le_of_ble_eq_true rfl) dL_law_442 rfl) e2 rfl ?_
  refine fr_swap2 ?_
  exact fr_keq (hgX σm') rfl dL_law_445 (by decide) (ih σx' σm' e3)
def sm_back (Rel : fr_St → fr_St → Prop) : Prop := ∀ (σx σm : fr_St), Rel σx σm → ∃ (r : Int32) (σx' : fr_St) (σm' : fr_St), zX9_back σx = some (r, σx') ∧ zX10_back σm = some (r, σm') ∧ Rel σx' σm'
set_option maxRecDepth 100000 in
set_option maxHeartbeats 4000000 in
theorem lc_back (hgX : ∀ σm, fr_ok g (fr_wX D cs A adx adm σm) fr_shX code 4 RL 9 332) (hgM : ∀ σx, fr_ok g (fr_wM D cs A adx adm σx) fr_shM code 4 RL 9 332) (hX : va_X b L xs g.2.2.2.2.1 g.2.2.2.2.1.heap) (hbl : b < g.2.2.2.2.1.heap.size) (hbA : ¬ A b) (hj : j + 6 ≤ L ∧ L < 2 ^ 31) (hs : sm_back Rel) (hR : Rel σx σm) (ih : ∀ σx σm, Rel σx σm → fr_K g (fr_wX D cs A adx adm σm) 4 1449 [(0, .ref b), (1, .ref (adx 0)), (2, .ref (adm 0)), (3, .int (nI j))] [] σx) : fr_K g (fr_wX D cs A adx adm σm) 4 450 [(0, .ref b), (1, .ref (adx 0)), (2, .ref (adm 0)), (3, .int (nI j))] [] σx := by
  obtain ⟨r, σx', σm', e1, e2, e3⟩ := hs σx σm hR
  refine fr_kV (fr_aload_n (hgX σm) 1 rfl dL_law_450 rfl (fr_Vk ?_))
  refine fr_kci2 (hgX σm) mX9_back (fr_crV (hgX σm) (q := 0) mo_L_48 rfl ⟨_, _, rfl⟩ rfl (by decide) (by decide) (Nat.le_of_ble_eq_true rfl) dL_law_451 rfl) e1 rfl ?_
  refine fr_kV (fr_aload_n (hgX σm) 2 rfl dL_law_454 rfl (fr_Vk ?_))
  refine fr_swap ?_
  refine fr_kci2 (hgM σx') mX10_back (fr_crV (hgM σx') (q := 0) mo_L_52 rfl ⟨_, _, rfl⟩ rfl (by decide) (by decide) (Nat.le_of_ble_eq_true rfl) dL_law_455 rfl) e2 rfl ?_
  refine fr_swap2 ?_
  exact fr_keq (hgX σm') rfl dL_law_458 (by decide) (ih σx' σm' e3)
def sm_judged (Rel : fr_St → fr_St → Prop) : Prop := ∀ (σx σm : fr_St), Rel σx σm → ∃ (r : Int32) (σx' : fr_St) (σm' : fr_St), zX9_judged σx = some (r, σx') ∧ zX10_judged σm = some (r, σm') ∧ Rel σx' σm'
set_option maxRecDepth 100000 in
set_option maxHeartbeats 4000000 in
theorem lc_judged (hgX : ∀ σm, fr_ok g (fr_wX D cs A adx adm σm) fr_shX code 4 RL 9 332) (hgM : ∀ σx, fr_ok g (fr_wM D cs A adx adm σx) fr_shM code 4 RL 9 332) (hX : va_X b L xs g.2.2.2.2.1 g.2.2.2.2.1.heap) (hbl : b < g.2.2.2.2.1.heap.size) (hbA : ¬ A b) (hj : j + 6 ≤ L ∧ L < 2 ^ 31) (hs : sm_judged Rel) (hR : Rel σx σm) (ih : ∀ σx σm, Rel σx σm → fr_K g (fr_wX D cs A adx adm σm) 4 1449 [(0, .ref b), (1, .ref (adx 0)), (2, .ref (adm 0)), (3, .int (nI j))] [] σx) : fr_K g (fr_wX D cs A adx adm σm) 4 463 [(0, .ref b), (1, .ref (adx 0)), (2, .ref (adm 0)), (3, .int (nI j))] [] σx := by
  obtain ⟨r, σx', σm', e1, e2, e3⟩ := hs σx σm hR
  refine fr_kV (fr_aload_n (hgX σm) 1 rfl dL_law_463 rfl (fr_Vk ?_))
  refine fr_kci2 (hgX σm) mX9_judged (fr_crV (hgX σm) (q := 0) mo_L_53 rfl ⟨_, _, rfl⟩ rfl (by decide) (by decide) (Nat.le_of_ble_eq_true rfl) dL_law_464 rfl) e1 rfl ?_
  refine fr_kV (fr_aload_n (hgX σm) 2 rfl dL_law_467 rfl (fr_Vk ?_))
  refine fr_swap ?_
  refine fr_kci2 (hgM σx') mX10_judged (fr_crV (hgM σx') (q := 0) mo_L_56 rfl ⟨_, _, rfl⟩ rfl (by decide) (by decide) (Nat.le_of_ble_eq_true rfl) dL_law_468 rfl) e2 rfl ?_
  refine fr_swap2 ?_
  exact fr_keq (hgX σm') rfl dL_law_471 (by decide) (ih σx' σm' e3)
def sm_thick (Rel : fr_St → fr_St → Prop) : Prop := ∀ (σx σm : fr_St) (a1 a2 : Int32), Rel σx σm → ∃ (r : Int32) (σx' : fr_St) (σm' : fr_St), zX9_thick σx a1 a2 = some (r, σx') ∧ zX10_thick σm a1 a2 = some (r, σm') ∧ Rel σx' σm'
set_option maxRecDepth 100000 in
set_option maxHeartbeats 4000000 in
theorem lc_thick (hgX : ∀ σm, fr_ok g (fr_wX D cs A adx adm σm) fr_shX code 4 RL 9 332) (hgM : ∀ σx, fr_ok g (fr_wM D cs A adx adm σx) fr_shM code 4 RL 9 332) (hX : va_X b L xs g.2.2.2.2.1 g.2.2.2.2.1.heap) (hbl : b < g.2.2.2.2.1.heap.size) (hbA : ¬ A b) (hj : j + 6 ≤ L ∧ L < 2 ^ 31) (hs : sm_thick Rel) (hR : Rel σx σm) (ih : ∀ σx σm, Rel σx σm → fr_K g (fr_wX D cs A adx adm σm) 4 1449 [(0, .ref b), (1, .ref (adx 0)), (2, .ref (adm 0)), (3, .int (nI j))] [] σx) : fr_K g (fr_wX D cs A adx adm σm) 4 476 [(0, .ref b), (1, .ref (adx 0)), (2, .ref (adm 0)), (3, .int (nI j))] [] σx := by
  obtain ⟨r, σx', σm', e1, e2, e3⟩ := hs σx σm (xs (j + 1)) (xs (j + 2)) hR
  refine fr_kV (fr_aload_n (hgX σm) 1 rfl dL_law_476 rfl (fr_Vk ?_))
  refine fr_kV (fr_aload_n (hgX σm) 0 rfl dL_law_477 rfl (fr_Vk ?_))
  refine fr_kV (fr_iload_n (hgX σm) 3 rfl dL_law_478 rfl (fr_Vk ?_))
  refine fr_kV (fr_iconst (hgX σm) (v := 1) (by decide) dL_law_479 rfl (fr_Vk ?_))
  refine fr_kV (fr_iadd (hgX σm) dL_law_480 rfl (fr_Vk ?_))
  refine fr_ksld (hgX σm) hX hbl hbA (nI_add j 1) (by omega) dL_law_481 rfl ?_
  refine fr_kV (fr_aload_n (hgX σm) 0 rfl dL_law_482 rfl (fr_Vk ?_))
  refine fr_kV (fr_iload_n (hgX σm) 3 rfl dL_law_483 rfl (fr_Vk ?_))
  refine fr_kV (fr_iconst (hgX σm) (v := 2) (by decide) dL_law_484 rfl (fr_Vk ?_))
  refine fr_kV (fr_iadd (hgX σm) dL_law_485 rfl (fr_Vk ?_))
  refine fr_ksld (hgX σm) hX hbl hbA (nI_add j 2) (by omega) dL_law_486 rfl ?_
  refine fr_kci2 (hgX σm) (mX9_thick (xs (j + 1)) (xs (j + 2))) (fr_crV (hgX σm) (q := 0) mo_L_57 rfl ⟨_, _, rfl⟩ rfl (by decide) (by decide) (Nat.le_of_ble_eq_true rfl) dL_law_487 rfl) e1 rfl ?_
  refine fr_kV (fr_aload_n (hgX σm) 2 rfl dL_law_490 rfl (fr_Vk ?_))
  refine fr_kV (fr_aload_n (hgX σm) 0 rfl dL_law_491 rfl (fr_Vk ?_))
  refine fr_kV (fr_iload_n (hgX σm) 3 rfl dL_law_492 rfl (fr_Vk ?_))
  refine fr_kV (fr_iconst (hgX σm) (v := 1) (by decide) dL_law_493 rfl (fr_Vk ?_))
  refine fr_kV (fr_iadd (hgX σm) dL_law_494 rfl (fr_Vk ?_))
  refine fr_ksld (hgX σm) hX hbl hbA (nI_add j 1) (by omega) dL_law_495 rfl ?_
  refine fr_kV (fr_aload_n (hgX σm) 0 rfl dL_law_496 rfl (fr_Vk ?_))
  refine fr_kV (fr_iload_n (hgX σm) 3 rfl dL_law_497 rfl (fr_Vk ?_))
  refine fr_kV (fr_iconst (hgX σm) (v := 2) (by decide) dL_law_498 rfl (fr_Vk ?_))
  refine fr_kV (fr_iadd (hgX σm) dL_law_499 rfl (fr_Vk ?_))
  refine fr_ksld (hgX σm) hX hbl hbA (nI_add j 2) (by omega) dL_law_500 rfl ?_
  refine fr_swap ?_
  refine fr_kci2 (hgM σx') (mX10_thick (xs (j + 1)) (xs (j + 2))) (fr_crV (hgM σx') (q := 0) mo_L_60 rfl ⟨_, _, rfl⟩ rfl (by decide) (by decide) (Nat.le_of_ble_eq_true rfl) dL_law_501 rfl) e2 rfl ?_
  refine fr_swap2 ?_
  exact fr_keq (hgX σm') rfl dL_law_504 (by decide) (ih σx' σm' e3)
def sm_state (Rel : fr_St → fr_St → Prop) : Prop := ∀ (σx σm : fr_St) (a1 a2 : Int32), Rel σx σm → ∃ (r : Int32) (σx' : fr_St) (σm' : fr_St), zX9_state σx a1 a2 = some (r, σx') ∧ zX10_state σm a1 a2 = some (r, σm') ∧ Rel σx' σm'
set_option maxRecDepth 100000 in
set_option maxHeartbeats 4000000 in
theorem lc_state (hgX : ∀ σm, fr_ok g (fr_wX D cs A adx adm σm) fr_shX code 4 RL 9 332) (hgM : ∀ σx, fr_ok g (fr_wM D cs A adx adm σx) fr_shM code 4 RL 9 332) (hX : va_X b L xs g.2.2.2.2.1 g.2.2.2.2.1.heap) (hbl : b < g.2.2.2.2.1.heap.size) (hbA : ¬ A b) (hj : j + 6 ≤ L ∧ L < 2 ^ 31) (hs : sm_state Rel) (hR : Rel σx σm) (ih : ∀ σx σm, Rel σx σm → fr_K g (fr_wX D cs A adx adm σm) 4 1449 [(0, .ref b), (1, .ref (adx 0)), (2, .ref (adm 0)), (3, .int (nI j))] [] σx) : fr_K g (fr_wX D cs A adx adm σm) 4 509 [(0, .ref b), (1, .ref (adx 0)), (2, .ref (adm 0)), (3, .int (nI j))] [] σx := by
  obtain ⟨r, σx', σm', e1, e2, e3⟩ := hs σx σm (xs (j + 1)) (xs (j + 2)) hR
  refine fr_kV (fr_aload_n (hgX σm) 1 rfl dL_law_509 rfl (fr_Vk ?_))
  refine fr_kV (fr_aload_n (hgX σm) 0 rfl dL_law_510 rfl (fr_Vk ?_))
  refine fr_kV (fr_iload_n (hgX σm) 3 rfl dL_law_511 rfl (fr_Vk ?_))
  refine fr_kV (fr_iconst (hgX σm) (v := 1) (by decide) dL_law_512 rfl (fr_Vk ?_))
  refine fr_kV (fr_iadd (hgX σm) dL_law_513 rfl (fr_Vk ?_))
  refine fr_ksld (hgX σm) hX hbl hbA (nI_add j 1) (by omega) dL_law_514 rfl ?_
  refine fr_kV (fr_aload_n (hgX σm) 0 rfl dL_law_515 rfl (fr_Vk ?_))
  refine fr_kV (fr_iload_n (hgX σm) 3 rfl dL_law_516 rfl (fr_Vk ?_))
  refine fr_kV (fr_iconst (hgX σm) (v := 2) (by decide) dL_law_517 rfl (fr_Vk ?_))
  refine fr_kV (fr_iadd (hgX σm) dL_law_518 rfl (fr_Vk ?_))
  refine fr_ksld (hgX σm) hX hbl hbA (nI_add j 2) (by omega) dL_law_519 rfl ?_
  refine fr_kci2 (hgX σm) (mX9_state (xs (j + 1)) (xs (j + 2))) (fr_crV (hgX σm) (q := 0) mo_L_61 rfl ⟨_, _, rfl⟩ rfl (by decide) (by decide) (Nat.le_of_ble_eq_true rfl) dL_law_520 rfl) e1 rfl ?_
  refine fr_kV (fr_aload_n (hgX σm) 2 rfl dL_law_523 rfl (fr_Vk ?_))
  refine fr_kV (fr_aload_n (hgX σm) 0 rfl dL_law_524 rfl (fr_Vk ?_))
  refine fr_kV (fr_iload_n (hgX σm) 3 rfl dL_law_525 rfl (fr_Vk ?_))
  refine fr_kV (fr_iconst (hgX σm) (v := 1) (by decide) dL_law_526 rfl (fr_Vk ?_))
  refine fr_kV (fr_iadd (hgX σm) dL_law_527 rfl (fr_Vk ?_))
  refine fr_ksld (hgX σm) hX hbl hbA (nI_add j 1) (by omega) dL_law_528 rfl ?_
  refine fr_kV (fr_aload_n (hgX σm) 0 rfl dL_law_529 rfl (fr_Vk ?_))
  refine fr_kV (fr_iload_n (hgX σm) 3 rfl dL_law_530 rfl (fr_Vk ?_))
  refine fr_kV (fr_iconst (hgX σm) (v := 2) (by decide) dL_law_531 rfl (fr_Vk ?_))
  refine fr_kV (fr_iadd (hgX σm) dL_law_532 rfl (fr_Vk ?_))
  refine fr_ksld (hgX σm) hX hbl hbA (nI_add j 2) (by omega) dL_law_533 rfl ?_
  refine fr_swap ?_
  refine fr_kci2 (hgM σx') (mX10_state (xs (j + 1)) (xs (j + 2))) (fr_crV (hgM σx') (q := 0) mo_L_64 rfl ⟨_, _, rfl⟩ rfl (by decide) (by decide) (Nat.le_of_ble_eq_true rfl) dL_law_534 rfl) e2 rfl ?_
  refine fr_swap2 ?_
  exact fr_keq (hgX σm') rfl dL_law_537 (by decide) (ih σx' σm' e3)
def sm_left (Rel : fr_St → fr_St → Prop) : Prop := ∀ (σx σm : fr_St) (a1 : Int32), Rel σx σm → ∃ (r : Int32) (σx' : fr_St) (σm' : fr_St), zX9_left σx a1 = some (r, σx') ∧ zX10_left σm a1 = some (r, σm') ∧ Rel σx' σm'
set_option maxRecDepth 100000 in
set_option maxHeartbeats 4000000 in
theorem lc_left (hgX : ∀ σm, fr_ok g (fr_wX D cs A adx adm σm) fr_shX code 4 RL 9 332) (hgM : ∀ σx, fr_ok g (fr_wM D cs A adx adm σx) fr_shM code 4 RL 9 332) (hX : va_X b L xs g.2.2.2.2.1 g.2.2.2.2.1.heap) (hbl : b < g.2.2.2.2.1.heap.size) (hbA : ¬ A b) (hj : j + 6 ≤ L ∧ L < 2 ^ 31) (hs : sm_left Rel) (hR : Rel σx σm) (ih : ∀ σx σm, Rel σx σm → fr_K g (fr_wX D cs A adx adm σm) 4 1449 [(0, .ref b), (1, .ref (adx 0)), (2, .ref (adm 0)), (3, .int (nI j))] [] σx) : fr_K g (fr_wX D cs A adx adm σm) 4 542 [(0, .ref b), (1, .ref (adx 0)), (2, .ref (adm 0)), (3, .int (nI j))] [] σx := by
  obtain ⟨r, σx', σm', e1, e2, e3⟩ := hs σx σm (xs (j + 1)) hR
  refine fr_kV (fr_aload_n (hgX σm) 1 rfl dL_law_542 rfl (fr_Vk ?_))
  refine fr_kV (fr_aload_n (hgX σm) 0 rfl dL_law_543 rfl (fr_Vk ?_))
  refine fr_kV (fr_iload_n (hgX σm) 3 rfl dL_law_544 rfl (fr_Vk ?_))
  refine fr_kV (fr_iconst (hgX σm) (v := 1) (by decide) dL_law_545 rfl (fr_Vk ?_))
  refine fr_kV (fr_iadd (hgX σm) dL_law_546 rfl (fr_Vk ?_))
  refine fr_ksld (hgX σm) hX hbl hbA (nI_add j 1) (by omega) dL_law_547 rfl ?_
  refine fr_kci2 (hgX σm) (mX9_left (xs (j + 1))) (fr_crV (hgX σm) (q := 0) mo_L_65 rfl ⟨_, _, rfl⟩ rfl (by decide) (by decide) (Nat.le_of_ble_eq_true rfl) dL_law_548 rfl) e1 rfl ?_
  refine fr_kV (fr_aload_n (hgX σm) 2 rfl dL_law_551 rfl (fr_Vk ?_))
  refine fr_kV (fr_aload_n (hgX σm) 0 rfl dL_law_552 rfl (fr_Vk ?_))
  refine fr_kV (fr_iload_n (hgX σm) 3 rfl dL_law_553 rfl (fr_Vk ?_))
  refine fr_kV (fr_iconst (hgX σm) (v := 1) (by decide) dL_law_554 rfl (fr_Vk ?_))
  refine fr_kV (fr_iadd (hgX σm) dL_law_555 rfl (fr_Vk ?_))
  refine fr_ksld (hgX σm) hX hbl hbA (nI_add j 1) (by omega) dL_law_556 rfl ?_
  refine fr_swap ?_
  refine fr_kci2 (hgM σx') (mX10_left (xs (j + 1))) (fr_crV (hgM σx') (q := 0) mo_L_68 rfl ⟨_, _, rfl⟩ rfl (by decide) (by decide) (Nat.le_of_ble_eq_true rfl) dL_law_557 rfl) e2 rfl ?_
  refine fr_swap2 ?_
  exact fr_keq (hgX σm') rfl dL_law_560 (by decide) (ih σx' σm' e3)
def sm_risk (Rel : fr_St → fr_St → Prop) : Prop := ∀ (σx σm : fr_St) (a1 : Int32), Rel σx σm → ∃ (r : Int32) (σx' : fr_St) (σm' : fr_St), zX9_risk σx a1 = some (r, σx') ∧ zX10_risk σm a1 = some (r, σm') ∧ Rel σx' σm'
set_option maxRecDepth 100000 in
set_option maxHeartbeats 4000000 in
theorem lc_risk (hgX : ∀ σm, fr_ok g (fr_wX D cs A adx adm σm) fr_shX code 4 RL 9 332) (hgM : ∀ σx, fr_ok g (fr_wM D cs A adx adm σx) fr_shM code 4 RL 9 332) (hX : va_X b L xs g.2.2.2.2.1 g.2.2.2.2.1.heap) (hbl : b < g.2.2.2.2.1.heap.size) (hbA : ¬ A b) (hj : j + 6 ≤ L ∧ L < 2 ^ 31) (hs : sm_risk Rel) (hR : Rel σx σm) (ih : ∀ σx σm, Rel σx σm → fr_K g (fr_wX D cs A adx adm σm) 4 1449 [(0, .ref b), (1, .ref (adx 0)), (2, .ref (adm 0)), (3, .int (nI j))] [] σx) : fr_K g (fr_wX D cs A adx adm σm) 4 565 [(0, .ref b), (1, .ref (adx 0)), (2, .ref (adm 0)), (3, .int (nI j))] [] σx := by
  obtain ⟨r, σx', σm', e1, e2, e3⟩ := hs σx σm (xs (j + 1)) hR
  refine fr_kV (fr_aload_n (hgX σm) 1 rfl dL_law_565 rfl (fr_Vk ?_))
  refine fr_kV (fr_aload_n (hgX σm) 0 rfl dL_law_566 rfl (fr_Vk ?_))
  refine fr_kV (fr_iload_n (hgX σm) 3 rfl dL_law_567 rfl (fr_Vk ?_))
  refine fr_kV (fr_iconst (hgX σm) (v := 1) (by decide) dL_law_568 rfl (fr_Vk ?_))
  refine fr_kV (fr_iadd (hgX σm) dL_law_569 rfl (fr_Vk ?_))
  refine fr_ksld (hgX σm) hX hbl hbA (nI_add j 1) (by omega) dL_law_570 rfl ?_
  refine fr_kci2 (hgX σm) (mX9_risk (xs (j + 1))) (fr_crV (hgX σm) (q := 0) mo_L_69 rfl ⟨_, _, rfl⟩ rfl (by decide) (by decide) (Nat.le_of_ble_eq_true rfl) dL_law_571 rfl) e1 rfl ?_
  refine fr_kV (fr_aload_n (hgX σm) 2 rfl dL_law_574 rfl (fr_Vk ?_))
  refine fr_kV (fr_aload_n (hgX σm) 0 rfl dL_law_575 rfl (fr_Vk ?_))
  refine fr_kV (fr_iload_n (hgX σm) 3 rfl dL_law_576 rfl (fr_Vk ?_))
  refine fr_kV (fr_iconst (hgX σm) (v := 1) (by decide) dL_law_577 rfl (fr_Vk ?_))
  refine fr_kV (fr_iadd (hgX σm) dL_law_578 rfl (fr_Vk ?_))
  refine fr_ksld (hgX σm) hX hbl hbA (nI_add j 1) (by omega) dL_law_579 rfl ?_
  refine fr_swap ?_
  refine fr_kci2 (hgM σx') (mX10_risk (xs (j + 1))) (fr_crV (hgM σx') (q := 0) mo_L_72 rfl ⟨_, _, rfl⟩ rfl (by decide) (by decide) (Nat.le_of_ble_eq_true rfl) dL_law_580 rfl) e2 rfl ?_
  refine fr_swap2 ?_
  exact fr_keq (hgX σm') rfl dL_law_583 (by decide) (ih σx' σm' e3)
def sm_all (Rel : fr_St → fr_St → Prop) : Prop := ∀ (σx σm : fr_St) (a1 : Int32), Rel σx σm → ∃ (r : Int32) (σx' : fr_St) (σm' : fr_St), zX9_all σx a1 = some (r, σx') ∧ zX10_all σm a1 = some (r, σm') ∧ Rel σx' σm'
set_option maxRecDepth 100000 in
set_option maxHeartbeats 4000000 in
theorem lc_all (hgX : ∀ σm, fr_ok g (fr_wX D cs A adx adm σm) fr_shX code 4 RL 9 332) (hgM : ∀ σx, fr_ok g (fr_wM D cs A adx adm σx) fr_shM code 4 RL 9 332) (hX : va_X b L xs g.2.2.2.2.1 g.2.2.2.2.1.heap) (hbl : b < g.2.2.2.2.1.heap.size) (hbA : ¬ A b) (hj : j + 6 ≤ L ∧ L < 2 ^ 31) (hs : sm_all Rel) (hR : Rel σx σm) (ih : ∀ σx σm, Rel σx σm → fr_K g (fr_wX D cs A adx adm σm) 4 1449 [(0, .ref b), (1, .ref (adx 0)), (2, .ref (adm 0)), (3, .int (nI j))] [] σx) : fr_K g (fr_wX D cs A adx adm σm) 4 588 [(0, .ref b), (1, .ref (adx 0)), (2, .ref (adm 0)), (3, .int (nI j))] [] σx := by
  obtain ⟨r, σx', σm', e1, e2, e3⟩ := hs σx σm (xs (j + 1)) hR
  refine fr_kV (fr_aload_n (hgX σm) 1 rfl dL_law_588 rfl (fr_Vk ?_))
  refine fr_kV (fr_aload_n (hgX σm) 0 rfl dL_law_589 rfl (fr_Vk ?_))
  refine fr_kV (fr_iload_n (hgX σm) 3 rfl dL_law_590 rfl (fr_Vk ?_))
  refine fr_kV (fr_iconst (hgX σm) (v := 1) (by decide) dL_law_591 rfl (fr_Vk ?_))
  refine fr_kV (fr_iadd (hgX σm) dL_law_592 rfl (fr_Vk ?_))
  refine fr_ksld (hgX σm) hX hbl hbA (nI_add j 1) (by omega) dL_law_593 rfl ?_
  refine fr_kci2 (hgX σm) (mX9_all (xs (j + 1))) (fr_crV (hgX σm) (q := 0) mo_L_73 rfl ⟨_, _, rfl⟩ rfl (by decide) (by decide) (Nat.le_of_ble_eq_true rfl) dL_law_594 rfl) e1 rfl ?_
  refine fr_kV (fr_aload_n (hgX σm) 2 rfl dL_law_597 rfl (fr_Vk ?_))
  refine fr_kV (fr_aload_n (hgX σm) 0 rfl dL_law_598 rfl (fr_Vk ?_))
  refine fr_kV (fr_iload_n (hgX σm) 3 rfl dL_law_599 rfl (fr_Vk ?_))
  refine fr_kV (fr_iconst (hgX σm) (v := 1) (by decide) dL_law_600 rfl (fr_Vk ?_))
  refine fr_kV (fr_iadd (hgX σm) dL_law_601 rfl (fr_Vk ?_))
  refine fr_ksld (hgX σm) hX hbl hbA (nI_add j 1) (by omega) dL_law_602 rfl ?_
  refine fr_swap ?_
  refine fr_kci2 (hgM σx') (mX10_all (xs (j + 1))) (fr_crV (hgM σx') (q := 0) mo_L_76 rfl ⟨_, _, rfl⟩ rfl (by decide) (by decide) (Nat.le_of_ble_eq_true rfl) dL_law_603 rfl) e2 rfl ?_
  refine fr_swap2 ?_
  exact fr_keq (hgX σm') rfl dL_law_606 (by decide) (ih σx' σm' e3)
def sm_first (Rel : fr_St → fr_St → Prop) : Prop := ∀ (σx σm : fr_St) (a1 a2 : Int32), Rel σx σm → ∃ (r : Int32) (σx' : fr_St) (σm' : fr_St), zX9_first σx a1 a2 = some (r, σx') ∧ zX10_first σm a1 a2 = some (r, σm') ∧ Rel σx' σm'
set_option maxRecDepth 100000 in
set_option maxHeartbeats 4000000 in
theorem lc_first (hgX : ∀ σm, fr_ok g (fr_wX D cs A adx adm σm) fr_shX code 4 RL 9 332) (hgM : ∀ σx, fr_ok g (fr_wM D cs A adx adm σx) fr_shM code 4 RL 9 332) (hX : va_X b L xs g.2.2.2.2.1 g.2.2.2.2.1.heap) (hbl : b < g.2.2.2.2.1.heap.size) (hbA : ¬ A b) (hj : j + 6 ≤ L ∧ L < 2 ^ 31) (hs : sm_first Rel) (hR : Rel σx σm) (ih : ∀ σx σm, Rel σx σm → fr_K g (fr_wX D cs A adx adm σm) 4 1449 [(0, .ref b), (1, .ref (adx 0)), (2, .ref (adm 0)), (3, .int (nI j))] [] σx) : fr_K g (fr_wX D cs A adx adm σm) 4 611 [(0, .ref b), (1, .ref (adx 0)), (2, .ref (adm 0)), (3, .int (nI j))] [] σx := by
  obtain ⟨r, σx', σm', e1, e2, e3⟩ := hs σx σm (xs (j + 1)) (xs (j + 2)) hR
  refine fr_kV (fr_aload_n (hgX σm) 1 rfl dL_law_611 rfl (fr_Vk ?_))
  refine fr_kV (fr_aload_n (hgX σm) 0 rfl dL_law_612 rfl (fr_Vk ?_))
  refine fr_kV (fr_iload_n (hgX σm) 3 rfl dL_law_613 rfl (fr_Vk ?_))
  refine fr_kV (fr_iconst (hgX σm) (v := 1) (by decide) dL_law_614 rfl (fr_Vk ?_))
  refine fr_kV (fr_iadd (hgX σm) dL_law_615 rfl (fr_Vk ?_))
  refine fr_ksld (hgX σm) hX hbl hbA (nI_add j 1) (by omega) dL_law_616 rfl ?_
  refine fr_kV (fr_aload_n (hgX σm) 0 rfl dL_law_617 rfl (fr_Vk ?_))
  refine fr_kV (fr_iload_n (hgX σm) 3 rfl dL_law_618 rfl (fr_Vk ?_))
  refine fr_kV (fr_iconst (hgX σm) (v := 2) (by decide) dL_law_619 rfl (fr_Vk ?_))
  refine fr_kV (fr_iadd (hgX σm) dL_law_620 rfl (fr_Vk ?_))
  refine fr_ksld (hgX σm) hX hbl hbA (nI_add j 2) (by omega) dL_law_621 rfl ?_
  refine fr_kci2 (hgX σm) (mX9_first (xs (j + 1)) (xs (j + 2))) (fr_crV (hgX σm) (q := 0) mo_L_77 rfl ⟨_, _, rfl⟩ rfl (by decide) (by decide) (Nat.le_of_ble_eq_true rfl) dL_law_622 rfl) e1 rfl ?_
  refine fr_kV (fr_aload_n (hgX σm) 2 rfl dL_law_625 rfl (fr_Vk ?_))
  refine fr_kV (fr_aload_n (hgX σm) 0 rfl dL_law_626 rfl (fr_Vk ?_))
  refine fr_kV (fr_iload_n (hgX σm) 3 rfl dL_law_627 rfl (fr_Vk ?_))
  refine fr_kV (fr_iconst (hgX σm) (v := 1) (by decide) dL_law_628 rfl (fr_Vk ?_))
  refine fr_kV (fr_iadd (hgX σm) dL_law_629 rfl (fr_Vk ?_))
  refine fr_ksld (hgX σm) hX hbl hbA (nI_add j 1) (by omega) dL_law_630 rfl ?_
  refine fr_kV (fr_aload_n (hgX σm) 0 rfl dL_law_631 rfl (fr_Vk ?_))
  refine fr_kV (fr_iload_n (hgX σm) 3 rfl dL_law_632 rfl (fr_Vk ?_))
  refine fr_kV (fr_iconst (hgX σm) (v := 2) (by decide) dL_law_633 rfl (fr_Vk ?_))
  refine fr_kV (fr_iadd (hgX σm) dL_law_634 rfl (fr_Vk ?_))
  refine fr_ksld (hgX σm) hX hbl hbA (nI_add j 2) (by omega) dL_law_635 rfl ?_
  refine fr_swap ?_
  refine fr_kci2 (hgM σx') (mX10_first (xs (j + 1)) (xs (j + 2))) (fr_crV (hgM σx') (q := 0) mo_L_80 rfl ⟨_, _, rfl⟩ rfl (by decide) (by decide) (Nat.le_of_ble_eq_true rfl) dL_law_636 rfl) e2 rfl ?_
  refine fr_swap2 ?_
  exact fr_keq (hgX σm') rfl dL_law_639 (by decide) (ih σx' σm' e3)
def sm_stop (Rel : fr_St → fr_St → Prop) : Prop := ∀ (σx σm : fr_St) (a1 a2 a3 a4 : Int32), Rel σx σm → ∃ (r : Int32) (σx' : fr_St) (σm' : fr_St), zX9_stop σx a1 a2 a3 a4 = some (r, σx') ∧ zX10_stop σm a1 a2 a3 a4 = some (r, σm') ∧ Rel σx' σm'
set_option maxRecDepth 100000 in
set_option maxHeartbeats 4000000 in
theorem lc_stop (hgX : ∀ σm, fr_ok g (fr_wX D cs A adx adm σm) fr_shX code 4 RL 9 332) (hgM : ∀ σx, fr_ok g (fr_wM D cs A adx adm σx) fr_shM code 4 RL 9 332) (hX : va_X b L xs g.2.2.2.2.1 g.2.2.2.2.1.heap) (hbl : b < g.2.2.2.2.1.heap.size) (hbA : ¬ A b) (hj : j + 6 ≤ L ∧ L < 2 ^ 31) (hs : sm_stop Rel) (hR : Rel σx σm) (ih : ∀ σx σm, Rel σx σm → fr_K g (fr_wX D cs A adx adm σm) 4 1449 [(0, .ref b), (1, .ref (adx 0)), (2, .ref (adm 0)), (3, .int (nI j))] [] σx) : fr_K g (fr_wX D cs A adx adm σm) 4 644 [(0, .ref b), (1, .ref (adx 0)), (2, .ref (adm 0)), (3, .int (nI j))] [] σx := by
  obtain ⟨r, σx', σm', e1, e2, e3⟩ := hs σx σm (xs (j + 1)) (xs (j + 2)) (xs (j + 3)) (xs (j + 4)) hR
  refine fr_kV (fr_aload_n (hgX σm) 1 rfl dL_law_644 rfl (fr_Vk ?_))
  refine fr_kV (fr_aload_n (hgX σm) 0 rfl dL_law_645 rfl (fr_Vk ?_))
  refine fr_kV (fr_iload_n (hgX σm) 3 rfl dL_law_646 rfl (fr_Vk ?_))
  refine fr_kV (fr_iconst (hgX σm) (v := 1) (by decide) dL_law_647 rfl (fr_Vk ?_))
  refine fr_kV (fr_iadd (hgX σm) dL_law_648 rfl (fr_Vk ?_))
  refine fr_ksld (hgX σm) hX hbl hbA (nI_add j 1) (by omega) dL_law_649 rfl ?_
  refine fr_kV (fr_aload_n (hgX σm) 0 rfl dL_law_650 rfl (fr_Vk ?_))
  refine fr_kV (fr_iload_n (hgX σm) 3 rfl dL_law_651 rfl (fr_Vk ?_))
  refine fr_kV (fr_iconst (hgX σm) (v := 2) (by decide) dL_law_652 rfl (fr_Vk ?_))
  refine fr_kV (fr_iadd (hgX σm) dL_law_653 rfl (fr_Vk ?_))
  refine fr_ksld (hgX σm) hX hbl hbA (nI_add j 2) (by omega) dL_law_654 rfl ?_
  refine fr_kV (fr_aload_n (hgX σm) 0 rfl dL_law_655 rfl (fr_Vk ?_))
  refine fr_kV (fr_iload_n (hgX σm) 3 rfl dL_law_656 rfl (fr_Vk ?_))
  refine fr_kV (fr_iconst (hgX σm) (v := 3) (by decide) dL_law_657 rfl (fr_Vk ?_))
  refine fr_kV (fr_iadd (hgX σm) dL_law_658 rfl (fr_Vk ?_))
  refine fr_ksld (hgX σm) hX hbl hbA (nI_add j 3) (by omega) dL_law_659 rfl ?_
  refine fr_kV (fr_aload_n (hgX σm) 0 rfl dL_law_660 rfl (fr_Vk ?_))
  refine fr_kV (fr_iload_n (hgX σm) 3 rfl dL_law_661 rfl (fr_Vk ?_))
  refine fr_kV (fr_iconst (hgX σm) (v := 4) (by decide) dL_law_662 rfl (fr_Vk ?_))
  refine fr_kV (fr_iadd (hgX σm) dL_law_663 rfl (fr_Vk ?_))
  refine fr_ksld (hgX σm) hX hbl hbA (nI_add j 4) (by omega) dL_law_664 rfl ?_
  refine fr_kci2 (hgX σm) (mX9_stop (xs (j + 1)) (xs (j + 2)) (xs (j + 3)) (xs (j + 4))) (fr_crV (hgX σm) (q := 0) mo_L_81 rfl ⟨_, _, rfl⟩ rfl (by decide) (by decide) (Nat.le_of_ble_eq_true rfl) dL_law_665 rfl) e1 rfl ?_
  refine fr_kV (fr_aload_n (hgX σm) 2 rfl dL_law_668 rfl (fr_Vk ?_))
  refine fr_kV (fr_aload_n (hgX σm) 0 rfl dL_law_669 rfl (fr_Vk ?_))
  refine fr_kV (fr_iload_n (hgX σm) 3 rfl dL_law_670 rfl (fr_Vk ?_))
  refine fr_kV (fr_iconst (hgX σm) (v := 1) (by decide) dL_law_671 rfl (fr_Vk ?_))
  refine fr_kV (fr_iadd (hgX σm) dL_law_672 rfl (fr_Vk ?_))
  refine fr_ksld (hgX σm) hX hbl hbA (nI_add j 1) (by omega) dL_law_673 rfl ?_
  refine fr_kV (fr_aload_n (hgX σm) 0 rfl dL_law_674 rfl (fr_Vk ?_))
  refine fr_kV (fr_iload_n (hgX σm) 3 rfl dL_law_675 rfl (fr_Vk ?_))
  refine fr_kV (fr_iconst (hgX σm) (v := 2) (by decide) dL_law_676 rfl (fr_Vk ?_))
  refine fr_kV (fr_iadd (hgX σm) dL_law_677 rfl (fr_Vk ?_))
  refine fr_ksld (hgX σm) hX hbl hbA (nI_add j 2) (by omega) dL_law_678 rfl ?_
  refine fr_kV (fr_aload_n (hgX σm) 0 rfl dL_law_679 rfl (fr_Vk ?_))
  refine fr_kV (fr_iload_n (hgX σm) 3 rfl dL_law_680 rfl (fr_Vk ?_))
  refine fr_kV (fr_iconst (hgX σm) (v := 3) (by decide) dL_law_681 rfl (fr_Vk ?_))
  refine fr_kV (fr_iadd (hgX σm) dL_law_682 rfl (fr_Vk ?_))
  refine fr_ksld (hgX σm) hX hbl hbA (nI_add j 3) (by omega) dL_law_683 rfl ?_
  refine fr_kV (fr_aload_n (hgX σm) 0 rfl dL_law_684 rfl (fr_Vk ?_))
  refine fr_kV (fr_iload_n (hgX σm) 3 rfl dL_law_685 rfl (fr_Vk ?_))
  refine fr_kV (fr_iconst (hgX σm) (v := 4) (by decide) dL_law_686 rfl (fr_Vk ?_))
  refine fr_kV (fr_iadd (hgX σm) dL_law_687 rfl (fr_Vk ?_))
  refine fr_ksld (hgX σm) hX hbl hbA (nI_add j 4) (by omega) dL_law_688 rfl ?_
  refine fr_swap ?_
  refine fr_kci2 (hgM σx') (mX10_stop (xs (j + 1)) (xs (j + 2)) (xs (j + 3)) (xs (j + 4))) (fr_crV (hgM σx') (q := 0) mo_L_85 rfl ⟨_, _, rfl⟩ rfl (by decide) (by decide) (Nat.le_of_ble_eq_true rfl) dL_law_689 rfl) e2 rfl ?_
  refine fr_swap2 ?_
  exact fr_keq (hgX σm') rfl dL_law_692 (by decide) (ih σx' σm' e3)
def sm_warm (Rel : fr_St → fr_St → Prop) : Prop := ∀ (σx σm : fr_St) (a1 a2 a3 : Int32), Rel σx σm → ∃ (r : Int32) (σx' : fr_St) (σm' : fr_St), zX9_warm σx a1 a2 a3 = some (r, σx') ∧ zX10_warm σm a1 a2 a3 = some (r, σm') ∧ Rel σx' σm'
set_option maxRecDepth 100000 in
set_option maxHeartbeats 4000000 in
theorem lc_warm (hgX : ∀ σm, fr_ok g (fr_wX D cs A adx adm σm) fr_shX code 4 RL 9 332) (hgM : ∀ σx, fr_ok g (fr_wM D cs A adx adm σx) fr_shM code 4 RL 9 332) (hX : va_X b L xs g.2.2.2.2.1 g.2.2.2.2.1.heap) (hbl : b < g.2.2.2.2.1.heap.size) (hbA : ¬ A b) (hj : j + 6 ≤ L ∧ L < 2 ^ 31) (hs : sm_warm Rel) (hR : Rel σx σm) (ih : ∀ σx σm, Rel σx σm → fr_K g (fr_wX D cs A adx adm σm) 4 1449 [(0, .ref b), (1, .ref (adx 0)), (2, .ref (adm 0)), (3, .int (nI j))] [] σx) : fr_K g (fr_wX D cs A adx adm σm) 4 697 [(0, .ref b), (1, .ref (adx 0)), (2, .ref (adm 0)), (3, .int (nI j))] [] σx := by
  obtain ⟨r, σx', σm', e1, e2, e3⟩ := hs σx σm (xs (j + 1)) (xs (j + 2)) (xs (j + 3)) hR
  refine fr_kV (fr_aload_n (hgX σm) 1 rfl dL_law_697 rfl (fr_Vk ?_))
  refine fr_kV (fr_aload_n (hgX σm) 0 rfl dL_law_698 rfl (fr_Vk ?_))
  refine fr_kV (fr_iload_n (hgX σm) 3 rfl dL_law_699 rfl (fr_Vk ?_))
  refine fr_kV (fr_iconst (hgX σm) (v := 1) (by decide) dL_law_700 rfl (fr_Vk ?_))
  refine fr_kV (fr_iadd (hgX σm) dL_law_701 rfl (fr_Vk ?_))
  refine fr_ksld (hgX σm) hX hbl hbA (nI_add j 1) (by omega) dL_law_702 rfl ?_
  refine fr_kV (fr_aload_n (hgX σm) 0 rfl dL_law_703 rfl (fr_Vk ?_))
  refine fr_kV (fr_iload_n (hgX σm) 3 rfl dL_law_704 rfl (fr_Vk ?_))
  refine fr_kV (fr_iconst (hgX σm) (v := 2) (by decide) dL_law_705 rfl (fr_Vk ?_))
  refine fr_kV (fr_iadd (hgX σm) dL_law_706 rfl (fr_Vk ?_))
  refine fr_ksld (hgX σm) hX hbl hbA (nI_add j 2) (by omega) dL_law_707 rfl ?_
  refine fr_kV (fr_aload_n (hgX σm) 0 rfl dL_law_708 rfl (fr_Vk ?_))
  refine fr_kV (fr_iload_n (hgX σm) 3 rfl dL_law_709 rfl (fr_Vk ?_))
  refine fr_kV (fr_iconst (hgX σm) (v := 3) (by decide) dL_law_710 rfl (fr_Vk ?_))
  refine fr_kV (fr_iadd (hgX σm) dL_law_711 rfl (fr_Vk ?_))
  refine fr_ksld (hgX σm) hX hbl hbA (nI_add j 3) (by omega) dL_law_712 rfl ?_
  refine fr_kci2 (hgX σm) (mX9_warm (xs (j + 1)) (xs (j + 2)) (xs (j + 3))) (fr_crV (hgX σm) (q := 0) mo_L_86 rfl ⟨_, _, rfl⟩ rfl (by decide) (by decide) (Nat.le_of_ble_eq_true rfl) dL_law_713 rfl) e1 rfl ?_
  refine fr_kV (fr_aload_n (hgX σm) 2 rfl dL_law_716 rfl (fr_Vk ?_))
  refine fr_kV (fr_aload_n (hgX σm) 0 rfl dL_law_717 rfl (fr_Vk ?_))
  refine fr_kV (fr_iload_n (hgX σm) 3 rfl dL_law_718 rfl (fr_Vk ?_))
  refine fr_kV (fr_iconst (hgX σm) (v := 1) (by decide) dL_law_719 rfl (fr_Vk ?_))
  refine fr_kV (fr_iadd (hgX σm) dL_law_720 rfl (fr_Vk ?_))
  refine fr_ksld (hgX σm) hX hbl hbA (nI_add j 1) (by omega) dL_law_721 rfl ?_
  refine fr_kV (fr_aload_n (hgX σm) 0 rfl dL_law_722 rfl (fr_Vk ?_))
  refine fr_kV (fr_iload_n (hgX σm) 3 rfl dL_law_723 rfl (fr_Vk ?_))
  refine fr_kV (fr_iconst (hgX σm) (v := 2) (by decide) dL_law_724 rfl (fr_Vk ?_))
  refine fr_kV (fr_iadd (hgX σm) dL_law_725 rfl (fr_Vk ?_))
  refine fr_ksld (hgX σm) hX hbl hbA (nI_add j 2) (by omega) dL_law_726 rfl ?_
  refine fr_kV (fr_aload_n (hgX σm) 0 rfl dL_law_727 rfl (fr_Vk ?_))
  refine fr_kV (fr_iload_n (hgX σm) 3 rfl dL_law_728 rfl (fr_Vk ?_))
  refine fr_kV (fr_iconst (hgX σm) (v := 3) (by decide) dL_law_729 rfl (fr_Vk ?_))
  refine fr_kV (fr_iadd (hgX σm) dL_law_730 rfl (fr_Vk ?_))
  refine fr_ksld (hgX σm) hX hbl hbA (nI_add j 3) (by omega) dL_law_731 rfl ?_
  refine fr_swap ?_
  refine fr_kci2 (hgM σx') (mX10_warm (xs (j + 1)) (xs (j + 2)) (xs (j + 3))) (fr_crV (hgM σx') (q := 0) mo_L_89 rfl ⟨_, _, rfl⟩ rfl (by decide) (by decide) (Nat.le_of_ble_eq_true rfl) dL_law_732 rfl) e2 rfl ?_
  refine fr_swap2 ?_
  exact fr_keq (hgX σm') rfl dL_law_735 (by decide) (ih σx' σm' e3)
def sm_crack (Rel : fr_St → fr_St → Prop) : Prop := ∀ (σx σm : fr_St) (a1 a2 : Int32), Rel σx σm → ∃ (r : Int32), zX9_crack a1 a2 = r ∧ zX10_crack a1 a2 = r ∧ Rel σx σm
set_option maxRecDepth 100000 in
set_option maxHeartbeats 4000000 in
theorem lc_crack (hgX : ∀ σm, fr_ok g (fr_wX D cs A adx adm σm) fr_shX code 4 RL 9 332) (hgM : ∀ σx, fr_ok g (fr_wM D cs A adx adm σx) fr_shM code 4 RL 9 332) (hX : va_X b L xs g.2.2.2.2.1 g.2.2.2.2.1.heap) (hbl : b < g.2.2.2.2.1.heap.size) (hbA : ¬ A b) (hj : j + 6 ≤ L ∧ L < 2 ^ 31) (hs : sm_crack Rel) (hR : Rel σx σm) (ih : ∀ σx σm, Rel σx σm → fr_K g (fr_wX D cs A adx adm σm) 4 1449 [(0, .ref b), (1, .ref (adx 0)), (2, .ref (adm 0)), (3, .int (nI j))] [] σx) : fr_K g (fr_wX D cs A adx adm σm) 4 740 [(0, .ref b), (1, .ref (adx 0)), (2, .ref (adm 0)), (3, .int (nI j))] [] σx := by
  obtain ⟨r, e1, e2, e3⟩ := hs σx σm (xs (j + 1)) (xs (j + 2)) hR
  refine fr_kV (fr_aload_n (hgX σm) 1 rfl dL_law_740 rfl (fr_Vk ?_))
  refine fr_kV (fr_aload_n (hgX σm) 0 rfl dL_law_741 rfl (fr_Vk ?_))
  refine fr_kV (fr_iload_n (hgX σm) 3 rfl dL_law_742 rfl (fr_Vk ?_))
  refine fr_kV (fr_iconst (hgX σm) (v := 1) (by decide) dL_law_743 rfl (fr_Vk ?_))
  refine fr_kV (fr_iadd (hgX σm) dL_law_744 rfl (fr_Vk ?_))
  refine fr_ksld (hgX σm) hX hbl hbA (nI_add j 1) (by omega) dL_law_745 rfl ?_
  refine fr_kV (fr_aload_n (hgX σm) 0 rfl dL_law_746 rfl (fr_Vk ?_))
  refine fr_kV (fr_iload_n (hgX σm) 3 rfl dL_law_747 rfl (fr_Vk ?_))
  refine fr_kV (fr_iconst (hgX σm) (v := 2) (by decide) dL_law_748 rfl (fr_Vk ?_))
  refine fr_kV (fr_iadd (hgX σm) dL_law_749 rfl (fr_Vk ?_))
  refine fr_ksld (hgX σm) hX hbl hbA (nI_add j 2) (by omega) dL_law_750 rfl ?_
  refine fr_kci0 (hgX σm) (mX9_crack (xs (j + 1)) (xs (j + 2))) (fr_crV (hgX σm) (q := 0) mo_L_90 rfl ⟨_, _, rfl⟩ rfl (by decide) (by decide) (Nat.le_of_ble_eq_true rfl) dL_law_751 rfl) e1 rfl ?_
  refine fr_kV (fr_aload_n (hgX σm) 2 rfl dL_law_754 rfl (fr_Vk ?_))
  refine fr_kV (fr_aload_n (hgX σm) 0 rfl dL_law_755 rfl (fr_Vk ?_))
  refine fr_kV (fr_iload_n (hgX σm) 3 rfl dL_law_756 rfl (fr_Vk ?_))
  refine fr_kV (fr_iconst (hgX σm) (v := 1) (by decide) dL_law_757 rfl (fr_Vk ?_))
  refine fr_kV (fr_iadd (hgX σm) dL_law_758 rfl (fr_Vk ?_))
  refine fr_ksld (hgX σm) hX hbl hbA (nI_add j 1) (by omega) dL_law_759 rfl ?_
  refine fr_kV (fr_aload_n (hgX σm) 0 rfl dL_law_760 rfl (fr_Vk ?_))
  refine fr_kV (fr_iload_n (hgX σm) 3 rfl dL_law_761 rfl (fr_Vk ?_))
  refine fr_kV (fr_iconst (hgX σm) (v := 2) (by decide) dL_law_762 rfl (fr_Vk ?_))
  refine fr_kV (fr_iadd (hgX σm) dL_law_763 rfl (fr_Vk ?_))
  refine fr_ksld (hgX σm) hX hbl hbA (nI_add j 2) (by omega) dL_law_764 rfl ?_
  refine fr_swap ?_
  refine fr_kci0 (hgM σx) (mX10_crack (xs (j + 1)) (xs (j + 2))) (fr_crV (hgM σx) (q := 0) mo_L_93 rfl ⟨_, _, rfl⟩ rfl (by decide) (by decide) (Nat.le_of_ble_eq_true rfl) dL_law_765 rfl) e2 rfl ?_
  refine fr_swap2 ?_
  exact fr_keq (hgX σm) rfl dL_law_768 (by decide) (ih σx σm e3)
def sm_melts (Rel : fr_St → fr_St → Prop) : Prop := ∀ (σx σm : fr_St) (a1 a2 a3 : Int32), Rel σx σm → ∃ (r : Int32) (σx' : fr_St) (σm' : fr_St), zX9_melts σx a1 a2 a3 = some (r, σx') ∧ zX10_melts σm a1 a2 a3 = some (r, σm') ∧ Rel σx' σm'
set_option maxRecDepth 100000 in
set_option maxHeartbeats 4000000 in
theorem lc_melts (hgX : ∀ σm, fr_ok g (fr_wX D cs A adx adm σm) fr_shX code 4 RL 9 332) (hgM : ∀ σx, fr_ok g (fr_wM D cs A adx adm σx) fr_shM code 4 RL 9 332) (hX : va_X b L xs g.2.2.2.2.1 g.2.2.2.2.1.heap) (hbl : b < g.2.2.2.2.1.heap.size) (hbA : ¬ A b) (hj : j + 6 ≤ L ∧ L < 2 ^ 31) (hs : sm_melts Rel) (hR : Rel σx σm) (ih : ∀ σx σm, Rel σx σm → fr_K g (fr_wX D cs A adx adm σm) 4 1449 [(0, .ref b), (1, .ref (adx 0)), (2, .ref (adm 0)), (3, .int (nI j))] [] σx) : fr_K g (fr_wX D cs A adx adm σm) 4 773 [(0, .ref b), (1, .ref (adx 0)), (2, .ref (adm 0)), (3, .int (nI j))] [] σx := by
  obtain ⟨r, σx', σm', e1, e2, e3⟩ := hs σx σm (xs (j + 1)) (xs (j + 2)) (xs (j + 3)) hR
  refine fr_kV (fr_aload_n (hgX σm) 1 rfl dL_law_773 rfl (fr_Vk ?_))
  refine fr_kV (fr_aload_n (hgX σm) 0 rfl dL_law_774 rfl (fr_Vk ?_))
  refine fr_kV (fr_iload_n (hgX σm) 3 rfl dL_law_775 rfl (fr_Vk ?_))
  refine fr_kV (fr_iconst (hgX σm) (v := 1) (by decide) dL_law_776 rfl (fr_Vk ?_))
  refine fr_kV (fr_iadd (hgX σm) dL_law_777 rfl (fr_Vk ?_))
  refine fr_ksld (hgX σm) hX hbl hbA (nI_add j 1) (by omega) dL_law_778 rfl ?_
  refine fr_kV (fr_aload_n (hgX σm) 0 rfl dL_law_779 rfl (fr_Vk ?_))
  refine fr_kV (fr_iload_n (hgX σm) 3 rfl dL_law_780 rfl (fr_Vk ?_))
  refine fr_kV (fr_iconst (hgX σm) (v := 2) (by decide) dL_law_781 rfl (fr_Vk ?_))
  refine fr_kV (fr_iadd (hgX σm) dL_law_782 rfl (fr_Vk ?_))
  refine fr_ksld (hgX σm) hX hbl hbA (nI_add j 2) (by omega) dL_law_783 rfl ?_
  refine fr_kV (fr_aload_n (hgX σm) 0 rfl dL_law_784 rfl (fr_Vk ?_))
  refine fr_kV (fr_iload_n (hgX σm) 3 rfl dL_law_785 rfl (fr_Vk ?_))
  refine fr_kV (fr_iconst (hgX σm) (v := 3) (by decide) dL_law_786 rfl (fr_Vk ?_))
  refine fr_kV (fr_iadd (hgX σm) dL_law_787 rfl (fr_Vk ?_))
  refine fr_ksld (hgX σm) hX hbl hbA (nI_add j 3) (by omega) dL_law_788 rfl ?_
  refine fr_kci2 (hgX σm) (mX9_melts (xs (j + 1)) (xs (j + 2)) (xs (j + 3))) (fr_crV (hgX σm) (q := 0) mo_L_94 rfl ⟨_, _, rfl⟩ rfl (by decide) (by decide) (Nat.le_of_ble_eq_true rfl) dL_law_789 rfl) e1 rfl ?_
  refine fr_kV (fr_aload_n (hgX σm) 2 rfl dL_law_792 rfl (fr_Vk ?_))
  refine fr_kV (fr_aload_n (hgX σm) 0 rfl dL_law_793 rfl (fr_Vk ?_))
  refine fr_kV (fr_iload_n (hgX σm) 3 rfl dL_law_794 rfl (fr_Vk ?_))
  refine fr_kV (fr_iconst (hgX σm) (v := 1) (by decide) dL_law_795 rfl (fr_Vk ?_))
  refine fr_kV (fr_iadd (hgX σm) dL_law_796 rfl (fr_Vk ?_))
  refine fr_ksld (hgX σm) hX hbl hbA (nI_add j 1) (by omega) dL_law_797 rfl ?_
  refine fr_kV (fr_aload_n (hgX σm) 0 rfl dL_law_798 rfl (fr_Vk ?_))
  refine fr_kV (fr_iload_n (hgX σm) 3 rfl dL_law_799 rfl (fr_Vk ?_))
  refine fr_kV (fr_iconst (hgX σm) (v := 2) (by decide) dL_law_800 rfl (fr_Vk ?_))
  refine fr_kV (fr_iadd (hgX σm) dL_law_801 rfl (fr_Vk ?_))
  refine fr_ksld (hgX σm) hX hbl hbA (nI_add j 2) (by omega) dL_law_802 rfl ?_
  refine fr_kV (fr_aload_n (hgX σm) 0 rfl dL_law_803 rfl (fr_Vk ?_))
  refine fr_kV (fr_iload_n (hgX σm) 3 rfl dL_law_804 rfl (fr_Vk ?_))
  refine fr_kV (fr_iconst (hgX σm) (v := 3) (by decide) dL_law_805 rfl (fr_Vk ?_))
  refine fr_kV (fr_iadd (hgX σm) dL_law_806 rfl (fr_Vk ?_))
  refine fr_ksld (hgX σm) hX hbl hbA (nI_add j 3) (by omega) dL_law_807 rfl ?_
  refine fr_swap ?_
  refine fr_kci2 (hgM σx') (mX10_melts (xs (j + 1)) (xs (j + 2)) (xs (j + 3))) (fr_crV (hgM σx') (q := 0) mo_L_97 rfl ⟨_, _, rfl⟩ rfl (by decide) (by decide) (Nat.le_of_ble_eq_true rfl) dL_law_808 rfl) e2 rfl ?_
  refine fr_swap2 ?_
  exact fr_keq (hgX σm') rfl dL_law_811 (by decide) (ih σx' σm' e3)
def sm_again (Rel : fr_St → fr_St → Prop) : Prop := ∀ (σx σm : fr_St) (a1 a2 a3 a4 : Int32), Rel σx σm → ∃ (r : Int32), zX9_again a1 a2 a3 a4 = some r ∧ zX10_again a1 a2 a3 a4 = some r ∧ Rel σx σm
set_option maxRecDepth 100000 in
set_option maxHeartbeats 4000000 in
theorem lc_again (hgX : ∀ σm, fr_ok g (fr_wX D cs A adx adm σm) fr_shX code 4 RL 9 332) (hgM : ∀ σx, fr_ok g (fr_wM D cs A adx adm σx) fr_shM code 4 RL 9 332) (hX : va_X b L xs g.2.2.2.2.1 g.2.2.2.2.1.heap) (hbl : b < g.2.2.2.2.1.heap.size) (hbA : ¬ A b) (hj : j + 6 ≤ L ∧ L < 2 ^ 31) (hs : sm_again Rel) (hR : Rel σx σm) (ih : ∀ σx σm, Rel σx σm → fr_K g (fr_wX D cs A adx adm σm) 4 1449 [(0, .ref b), (1, .ref (adx 0)), (2, .ref (adm 0)), (3, .int (nI j))] [] σx) : fr_K g (fr_wX D cs A adx adm σm) 4 816 [(0, .ref b), (1, .ref (adx 0)), (2, .ref (adm 0)), (3, .int (nI j))] [] σx := by
  obtain ⟨r, e1, e2, e3⟩ := hs σx σm (xs (j + 1)) (xs (j + 2)) (xs (j + 3)) (xs (j + 4)) hR
  refine fr_kV (fr_aload_n (hgX σm) 1 rfl dL_law_816 rfl (fr_Vk ?_))
  refine fr_kV (fr_aload_n (hgX σm) 0 rfl dL_law_817 rfl (fr_Vk ?_))
  refine fr_kV (fr_iload_n (hgX σm) 3 rfl dL_law_818 rfl (fr_Vk ?_))
  refine fr_kV (fr_iconst (hgX σm) (v := 1) (by decide) dL_law_819 rfl (fr_Vk ?_))
  refine fr_kV (fr_iadd (hgX σm) dL_law_820 rfl (fr_Vk ?_))
  refine fr_ksld (hgX σm) hX hbl hbA (nI_add j 1) (by omega) dL_law_821 rfl ?_
  refine fr_kV (fr_aload_n (hgX σm) 0 rfl dL_law_822 rfl (fr_Vk ?_))
  refine fr_kV (fr_iload_n (hgX σm) 3 rfl dL_law_823 rfl (fr_Vk ?_))
  refine fr_kV (fr_iconst (hgX σm) (v := 2) (by decide) dL_law_824 rfl (fr_Vk ?_))
  refine fr_kV (fr_iadd (hgX σm) dL_law_825 rfl (fr_Vk ?_))
  refine fr_ksld (hgX σm) hX hbl hbA (nI_add j 2) (by omega) dL_law_826 rfl ?_
  refine fr_kV (fr_aload_n (hgX σm) 0 rfl dL_law_827 rfl (fr_Vk ?_))
  refine fr_kV (fr_iload_n (hgX σm) 3 rfl dL_law_828 rfl (fr_Vk ?_))
  refine fr_kV (fr_iconst (hgX σm) (v := 3) (by decide) dL_law_829 rfl (fr_Vk ?_))
  refine fr_kV (fr_iadd (hgX σm) dL_law_830 rfl (fr_Vk ?_))
  refine fr_ksld (hgX σm) hX hbl hbA (nI_add j 3) (by omega) dL_law_831 rfl ?_
  refine fr_kV (fr_aload_n (hgX σm) 0 rfl dL_law_832 rfl (fr_Vk ?_))
  refine fr_kV (fr_iload_n (hgX σm) 3 rfl dL_law_833 rfl (fr_Vk ?_))
  refine fr_kV (fr_iconst (hgX σm) (v := 4) (by decide) dL_law_834 rfl (fr_Vk ?_))
  refine fr_kV (fr_iadd (hgX σm) dL_law_835 rfl (fr_Vk ?_))
  refine fr_ksld (hgX σm) hX hbl hbA (nI_add j 4) (by omega) dL_law_836 rfl ?_
  refine fr_kci1 (hgX σm) (mX9_again (xs (j + 1)) (xs (j + 2)) (xs (j + 3)) (xs (j + 4))) (fr_crV (hgX σm) (q := 0) mo_L_98 rfl ⟨_, _, rfl⟩ rfl (by decide) (by decide) (Nat.le_of_ble_eq_true rfl) dL_law_837 rfl) e1 rfl ?_
  refine fr_kV (fr_aload_n (hgX σm) 2 rfl dL_law_840 rfl (fr_Vk ?_))
  refine fr_kV (fr_aload_n (hgX σm) 0 rfl dL_law_841 rfl (fr_Vk ?_))
  refine fr_kV (fr_iload_n (hgX σm) 3 rfl dL_law_842 rfl (fr_Vk ?_))
  refine fr_kV (fr_iconst (hgX σm) (v := 1) (by decide) dL_law_843 rfl (fr_Vk ?_))
  refine fr_kV (fr_iadd (hgX σm) dL_law_844 rfl (fr_Vk ?_))
  refine fr_ksld (hgX σm) hX hbl hbA (nI_add j 1) (by omega) dL_law_845 rfl ?_
  refine fr_kV (fr_aload_n (hgX σm) 0 rfl dL_law_846 rfl (fr_Vk ?_))
  refine fr_kV (fr_iload_n (hgX σm) 3 rfl dL_law_847 rfl (fr_Vk ?_))
  refine fr_kV (fr_iconst (hgX σm) (v := 2) (by decide) dL_law_848 rfl (fr_Vk ?_))
  refine fr_kV (fr_iadd (hgX σm) dL_law_849 rfl (fr_Vk ?_))
  refine fr_ksld (hgX σm) hX hbl hbA (nI_add j 2) (by omega) dL_law_850 rfl ?_
  refine fr_kV (fr_aload_n (hgX σm) 0 rfl dL_law_851 rfl (fr_Vk ?_))
  refine fr_kV (fr_iload_n (hgX σm) 3 rfl dL_law_852 rfl (fr_Vk ?_))
  refine fr_kV (fr_iconst (hgX σm) (v := 3) (by decide) dL_law_853 rfl (fr_Vk ?_))
  refine fr_kV (fr_iadd (hgX σm) dL_law_854 rfl (fr_Vk ?_))
  refine fr_ksld (hgX σm) hX hbl hbA (nI_add j 3) (by omega) dL_law_855 rfl ?_
  refine fr_kV (fr_aload_n (hgX σm) 0 rfl dL_law_856 rfl (fr_Vk ?_))
  refine fr_kV (fr_iload_n (hgX σm) 3 rfl dL_law_857 rfl (fr_Vk ?_))
  refine fr_kV (fr_iconst (hgX σm) (v := 4) (by decide) dL_law_858 rfl (fr_Vk ?_))
  refine fr_kV (fr_iadd (hgX σm) dL_law_859 rfl (fr_Vk ?_))
  refine fr_ksld (hgX σm) hX hbl hbA (nI_add j 4) (by omega) dL_law_860 rfl ?_
  refine fr_swap ?_
  refine fr_kci1 (hgM σx) (mX10_again (xs (j + 1)) (xs (j + 2)) (xs (j + 3)) (xs (j + 4))) (fr_crV (hgM σx) (q := 0) mo_L_101 rfl ⟨_, _, rfl⟩ rfl (by decide) (by decide) (Nat.le_of_ble_eq_true rfl) dL_law_861 rfl) e2 rfl ?_
  refine fr_swap2 ?_
  exact fr_keq (hgX σm) rfl dL_law_864 (by decide) (ih σx σm e3)
def sm_night (Rel : fr_St → fr_St → Prop) : Prop := ∀ (σx σm : fr_St) (a1 a2 a3 : Int32), Rel σx σm → ∃ (r : Int32), zX9_night a1 a2 a3 = r ∧ zX10_night a1 a2 a3 = r ∧ Rel σx σm
set_option maxRecDepth 100000 in
set_option maxHeartbeats 4000000 in
theorem lc_night (hgX : ∀ σm, fr_ok g (fr_wX D cs A adx adm σm) fr_shX code 4 RL 9 332) (hgM : ∀ σx, fr_ok g (fr_wM D cs A adx adm σx) fr_shM code 4 RL 9 332) (hX : va_X b L xs g.2.2.2.2.1 g.2.2.2.2.1.heap) (hbl : b < g.2.2.2.2.1.heap.size) (hbA : ¬ A b) (hj : j + 6 ≤ L ∧ L < 2 ^ 31) (hs : sm_night Rel) (hR : Rel σx σm) (ih : ∀ σx σm, Rel σx σm → fr_K g (fr_wX D cs A adx adm σm) 4 1449 [(0, .ref b), (1, .ref (adx 0)), (2, .ref (adm 0)), (3, .int (nI j))] [] σx) : fr_K g (fr_wX D cs A adx adm σm) 4 869 [(0, .ref b), (1, .ref (adx 0)), (2, .ref (adm 0)), (3, .int (nI j))] [] σx := by
  obtain ⟨r, e1, e2, e3⟩ := hs σx σm (xs (j + 1)) (xs (j + 2)) (xs (j + 3)) hR
  refine fr_kV (fr_aload_n (hgX σm) 1 rfl dL_law_869 rfl (fr_Vk ?_))
  refine fr_kV (fr_aload_n (hgX σm) 0 rfl dL_law_870 rfl (fr_Vk ?_))
  refine fr_kV (fr_iload_n (hgX σm) 3 rfl dL_law_871 rfl (fr_Vk ?_))
  refine fr_kV (fr_iconst (hgX σm) (v := 1) (by decide) dL_law_872 rfl (fr_Vk ?_))
  refine fr_kV (fr_iadd (hgX σm) dL_law_873 rfl (fr_Vk ?_))
  refine fr_ksld (hgX σm) hX hbl hbA (nI_add j 1) (by omega) dL_law_874 rfl ?_
  refine fr_kV (fr_aload_n (hgX σm) 0 rfl dL_law_875 rfl (fr_Vk ?_))
  refine fr_kV (fr_iload_n (hgX σm) 3 rfl dL_law_876 rfl (fr_Vk ?_))
  refine fr_kV (fr_iconst (hgX σm) (v := 2) (by decide) dL_law_877 rfl (fr_Vk ?_))
  refine fr_kV (fr_iadd (hgX σm) dL_law_878 rfl (fr_Vk ?_))
  refine fr_ksld (hgX σm) hX hbl hbA (nI_add j 2) (by omega) dL_law_879 rfl ?_
  refine fr_kV (fr_aload_n (hgX σm) 0 rfl dL_law_880 rfl (fr_Vk ?_))
  refine fr_kV (fr_iload_n (hgX σm) 3 rfl dL_law_881 rfl (fr_Vk ?_))
  refine fr_kV (fr_iconst (hgX σm) (v := 3) (by decide) dL_law_882 rfl (fr_Vk ?_))
  refine fr_kV (fr_iadd (hgX σm) dL_law_883 rfl (fr_Vk ?_))
  refine fr_ksld (hgX σm) hX hbl hbA (nI_add j 3) (by omega) dL_law_884 rfl ?_
  refine fr_kci0 (hgX σm) (mX9_night (xs (j + 1)) (xs (j + 2)) (xs (j + 3))) (fr_crV (hgX σm) (q := 0) mo_L_102 rfl ⟨_, _, rfl⟩ rfl (by decide) (by decide) (Nat.le_of_ble_eq_true rfl) dL_law_885 rfl) e1 rfl ?_
  refine fr_kV (fr_aload_n (hgX σm) 2 rfl dL_law_888 rfl (fr_Vk ?_))
  refine fr_kV (fr_aload_n (hgX σm) 0 rfl dL_law_889 rfl (fr_Vk ?_))
  refine fr_kV (fr_iload_n (hgX σm) 3 rfl dL_law_890 rfl (fr_Vk ?_))
  refine fr_kV (fr_iconst (hgX σm) (v := 1) (by decide) dL_law_891 rfl (fr_Vk ?_))
  refine fr_kV (fr_iadd (hgX σm) dL_law_892 rfl (fr_Vk ?_))
  refine fr_ksld (hgX σm) hX hbl hbA (nI_add j 1) (by omega) dL_law_893 rfl ?_
  refine fr_kV (fr_aload_n (hgX σm) 0 rfl dL_law_894 rfl (fr_Vk ?_))
  refine fr_kV (fr_iload_n (hgX σm) 3 rfl dL_law_895 rfl (fr_Vk ?_))
  refine fr_kV (fr_iconst (hgX σm) (v := 2) (by decide) dL_law_896 rfl (fr_Vk ?_))
  refine fr_kV (fr_iadd (hgX σm) dL_law_897 rfl (fr_Vk ?_))
  refine fr_ksld (hgX σm) hX hbl hbA (nI_add j 2) (by omega) dL_law_898 rfl ?_
  refine fr_kV (fr_aload_n (hgX σm) 0 rfl dL_law_899 rfl (fr_Vk ?_))
  refine fr_kV (fr_iload_n (hgX σm) 3 rfl dL_law_900 rfl (fr_Vk ?_))
  refine fr_kV (fr_iconst (hgX σm) (v := 3) (by decide) dL_law_901 rfl (fr_Vk ?_))
  refine fr_kV (fr_iadd (hgX σm) dL_law_902 rfl (fr_Vk ?_))
  refine fr_ksld (hgX σm) hX hbl hbA (nI_add j 3) (by omega) dL_law_903 rfl ?_
  refine fr_swap ?_
  refine fr_kci0 (hgM σx) (mX10_night (xs (j + 1)) (xs (j + 2)) (xs (j + 3))) (fr_crV (hgM σx) (q := 0) mo_L_105 rfl ⟨_, _, rfl⟩ rfl (by decide) (by decide) (Nat.le_of_ble_eq_true rfl) dL_law_904 rfl) e2 rfl ?_
  refine fr_swap2 ?_
  exact fr_keq (hgX σm) rfl dL_law_907 (by decide) (ih σx σm e3)
def sm_tonight (Rel : fr_St → fr_St → Prop) : Prop := ∀ (σx σm : fr_St) (a1 a2 a3 a4 a5 : Int32), Rel σx σm → ∃ (r : Int64) (σm' : fr_St), zX9_tonight σx a1 a2 a3 a4 a5 = some r ∧ zX10_tonight σm a1 a2 a3 a4 a5 = some (r, σm') ∧ Rel σx σm'
set_option maxRecDepth 100000 in
set_option maxHeartbeats 4000000 in
theorem lc_tonight (hgX : ∀ σm, fr_ok g (fr_wX D cs A adx adm σm) fr_shX code 4 RL 9 332) (hgM : ∀ σx, fr_ok g (fr_wM D cs A adx adm σx) fr_shM code 4 RL 9 332) (hX : va_X b L xs g.2.2.2.2.1 g.2.2.2.2.1.heap) (hbl : b < g.2.2.2.2.1.heap.size) (hbA : ¬ A b) (hj : j + 6 ≤ L ∧ L < 2 ^ 31) (hs : sm_tonight Rel) (hR : Rel σx σm) (ih : ∀ σx σm, Rel σx σm → fr_K g (fr_wX D cs A adx adm σm) 4 1449 [(0, .ref b), (1, .ref (adx 0)), (2, .ref (adm 0)), (3, .int (nI j))] [] σx) : fr_K g (fr_wX D cs A adx adm σm) 4 912 [(0, .ref b), (1, .ref (adx 0)), (2, .ref (adm 0)), (3, .int (nI j))] [] σx := by
  obtain ⟨r, σm', e1, e2, e3⟩ := hs σx σm (xs (j + 1)) (xs (j + 2)) (xs (j + 3)) (xs (j + 4)) (xs (j + 5)) hR
  refine fr_kV (fr_aload_n (hgX σm) 1 rfl dL_law_912 rfl (fr_Vk ?_))
  refine fr_kV (fr_aload_n (hgX σm) 0 rfl dL_law_913 rfl (fr_Vk ?_))
  refine fr_kV (fr_iload_n (hgX σm) 3 rfl dL_law_914 rfl (fr_Vk ?_))
  refine fr_kV (fr_iconst (hgX σm) (v := 1) (by decide) dL_law_915 rfl (fr_Vk ?_))
  refine fr_kV (fr_iadd (hgX σm) dL_law_916 rfl (fr_Vk ?_))
  refine fr_ksld (hgX σm) hX hbl hbA (nI_add j 1) (by omega) dL_law_917 rfl ?_
  refine fr_kV (fr_aload_n (hgX σm) 0 rfl dL_law_918 rfl (fr_Vk ?_))
  refine fr_kV (fr_iload_n (hgX σm) 3 rfl dL_law_919 rfl (fr_Vk ?_))
  refine fr_kV (fr_iconst (hgX σm) (v := 2) (by decide) dL_law_920 rfl (fr_Vk ?_))
  refine fr_kV (fr_iadd (hgX σm) dL_law_921 rfl (fr_Vk ?_))
  refine fr_ksld (hgX σm) hX hbl hbA (nI_add j 2) (by omega) dL_law_922 rfl ?_
  refine fr_kV (fr_aload_n (hgX σm) 0 rfl dL_law_923 rfl (fr_Vk ?_))
  refine fr_kV (fr_iload_n (hgX σm) 3 rfl dL_law_924 rfl (fr_Vk ?_))
  refine fr_kV (fr_iconst (hgX σm) (v := 3) (by decide) dL_law_925 rfl (fr_Vk ?_))
  refine fr_kV (fr_iadd (hgX σm) dL_law_926 rfl (fr_Vk ?_))
  refine fr_ksld (hgX σm) hX hbl hbA (nI_add j 3) (by omega) dL_law_927 rfl ?_
  refine fr_kV (fr_aload_n (hgX σm) 0 rfl dL_law_928 rfl (fr_Vk ?_))
  refine fr_kV (fr_iload_n (hgX σm) 3 rfl dL_law_929 rfl (fr_Vk ?_))
  refine fr_kV (fr_iconst (hgX σm) (v := 4) (by decide) dL_law_930 rfl (fr_Vk ?_))
  refine fr_kV (fr_iadd (hgX σm) dL_law_931 rfl (fr_Vk ?_))
  refine fr_ksld (hgX σm) hX hbl hbA (nI_add j 4) (by omega) dL_law_932 rfl ?_
  refine fr_kV (fr_aload_n (hgX σm) 0 rfl dL_law_933 rfl (fr_Vk ?_))
  refine fr_kV (fr_iload_n (hgX σm) 3 rfl dL_law_934 rfl (fr_Vk ?_))
  refine fr_kV (fr_iconst (hgX σm) (v := 5) (by decide) dL_law_935 rfl (fr_Vk ?_))
  refine fr_kV (fr_iadd (hgX σm) dL_law_936 rfl (fr_Vk ?_))
  refine fr_ksld (hgX σm) hX hbl hbA (nI_add j 5) (by omega) dL_law_937 rfl ?_
  refine fr_kcl1 (hgX σm) (mX9_tonight (xs (j + 1)) (xs (j + 2)) (xs (j + 3)) (xs (j + 4)) (xs (j + 5))) (fr_crV (hgX σm) (q := 0) mo_L_106 rfl ⟨_, _, rfl⟩ rfl (by decide) (by decide) (Nat.le_of_ble_eq_true rfl) dL_law_938 rfl) e1 rfl ?_
  refine fr_kV (fr_aload_n (hgX σm) 2 rfl dL_law_941 rfl (fr_Vk ?_))
  refine fr_kV (fr_aload_n (hgX σm) 0 rfl dL_law_942 rfl (fr_Vk ?_))
  refine fr_kV (fr_iload_n (hgX σm) 3 rfl dL_law_943 rfl (fr_Vk ?_))
  refine fr_kV (fr_iconst (hgX σm) (v := 1) (by decide) dL_law_944 rfl (fr_Vk ?_))
  refine fr_kV (fr_iadd (hgX σm) dL_law_945 rfl (fr_Vk ?_))
  refine fr_ksld (hgX σm) hX hbl hbA (nI_add j 1) (by omega) dL_law_946 rfl ?_
  refine fr_kV (fr_aload_n (hgX σm) 0 rfl dL_law_947 rfl (fr_Vk ?_))
  refine fr_kV (fr_iload_n (hgX σm) 3 rfl dL_law_948 rfl (fr_Vk ?_))
  refine fr_kV (fr_iconst (hgX σm) (v := 2) (by decide) dL_law_949 rfl (fr_Vk ?_))
  refine fr_kV (fr_iadd (hgX σm) dL_law_950 rfl (fr_Vk ?_))
  refine fr_ksld (hgX σm) hX hbl hbA (nI_add j 2) (by omega) dL_law_951 rfl ?_
  refine fr_kV (fr_aload_n (hgX σm) 0 rfl dL_law_952 rfl (fr_Vk ?_))
  refine fr_kV (fr_iload_n (hgX σm) 3 rfl dL_law_953 rfl (fr_Vk ?_))
  refine fr_kV (fr_iconst (hgX σm) (v := 3) (by decide) dL_law_954 rfl (fr_Vk ?_))
  refine fr_kV (fr_iadd (hgX σm) dL_law_955 rfl (fr_Vk ?_))
  refine fr_ksld (hgX σm) hX hbl hbA (nI_add j 3) (by omega) dL_law_956 rfl ?_
  refine fr_kV (fr_aload_n (hgX σm) 0 rfl dL_law_957 rfl (fr_Vk ?_))
  refine fr_kV (fr_iload_n (hgX σm) 3 rfl dL_law_958 rfl (fr_Vk ?_))
  refine fr_kV (fr_iconst (hgX σm) (v := 4) (by decide) dL_law_959 rfl (fr_Vk ?_))
  refine fr_kV (fr_iadd (hgX σm) dL_law_960 rfl (fr_Vk ?_))
  refine fr_ksld (hgX σm) hX hbl hbA (nI_add j 4) (by omega) dL_law_961 rfl ?_
  refine fr_kV (fr_aload_n (hgX σm) 0 rfl dL_law_962 rfl (fr_Vk ?_))
  refine fr_kV (fr_iload_n (hgX σm) 3 rfl dL_law_963 rfl (fr_Vk ?_))
  refine fr_kV (fr_iconst (hgX σm) (v := 5) (by decide) dL_law_964 rfl (fr_Vk ?_))
  refine fr_kV (fr_iadd (hgX σm) dL_law_965 rfl (fr_Vk ?_))
  refine fr_ksld (hgX σm) hX hbl hbA (nI_add j 5) (by omega) dL_law_966 rfl ?_
  refine fr_swap ?_
  refine fr_kcl2 (hgM σx) (mX10_tonight (xs (j + 1)) (xs (j + 2)) (xs (j + 3)) (xs (j + 4)) (xs (j + 5))) (fr_crV (hgM σx) (q := 0) mo_L_110 rfl ⟨_, _, rfl⟩ rfl (by decide) (by decide) (Nat.le_of_ble_eq_true rfl) dL_law_967 rfl) e2 rfl ?_
  refine fr_swap2 ?_
  refine fr_kV (fr_lcmp (hgX σm') dL_law_970 rfl (fr_Vk ?_))
  exact fr_kz (hgX σm') (by simp [lg_cmp]) dL_law_971 (by decide) (ih σx σm' e3)
def sm_cover (Rel : fr_St → fr_St → Prop) : Prop := ∀ (σx σm : fr_St) (a1 a2 a3 a4 : Int32), Rel σx σm → ∃ (r : Int32) (σm' : fr_St), zX9_cover σx a1 a2 a3 a4 = some r ∧ zX10_cover σm a1 a2 a3 a4 = some (r, σm') ∧ Rel σx σm'
set_option maxRecDepth 100000 in
set_option maxHeartbeats 4000000 in
theorem lc_cover (hgX : ∀ σm, fr_ok g (fr_wX D cs A adx adm σm) fr_shX code 4 RL 9 332) (hgM : ∀ σx, fr_ok g (fr_wM D cs A adx adm σx) fr_shM code 4 RL 9 332) (hX : va_X b L xs g.2.2.2.2.1 g.2.2.2.2.1.heap) (hbl : b < g.2.2.2.2.1.heap.size) (hbA : ¬ A b) (hj : j + 6 ≤ L ∧ L < 2 ^ 31) (hs : sm_cover Rel) (hR : Rel σx σm) (ih : ∀ σx σm, Rel σx σm → fr_K g (fr_wX D cs A adx adm σm) 4 1449 [(0, .ref b), (1, .ref (adx 0)), (2, .ref (adm 0)), (3, .int (nI j))] [] σx) : fr_K g (fr_wX D cs A adx adm σm) 4 976 [(0, .ref b), (1, .ref (adx 0)), (2, .ref (adm 0)), (3, .int (nI j))] [] σx := by
  obtain ⟨r, σm', e1, e2, e3⟩ := hs σx σm (xs (j + 1)) (xs (j + 2)) (xs (j + 3)) (xs (j + 4)) hR
  refine fr_kV (fr_aload_n (hgX σm) 1 rfl dL_law_976 rfl (fr_Vk ?_))
  refine fr_kV (fr_aload_n (hgX σm) 0 rfl dL_law_977 rfl (fr_Vk ?_))
  refine fr_kV (fr_iload_n (hgX σm) 3 rfl dL_law_978 rfl (fr_Vk ?_))
  refine fr_kV (fr_iconst (hgX σm) (v := 1) (by decide) dL_law_979 rfl (fr_Vk ?_))
  refine fr_kV (fr_iadd (hgX σm) dL_law_980 rfl (fr_Vk ?_))
  refine fr_ksld (hgX σm) hX hbl hbA (nI_add j 1) (by omega) dL_law_981 rfl ?_
  refine fr_kV (fr_aload_n (hgX σm) 0 rfl dL_law_982 rfl (fr_Vk ?_))
  refine fr_kV (fr_iload_n (hgX σm) 3 rfl dL_law_983 rfl (fr_Vk ?_))
  refine fr_kV (fr_iconst (hgX σm) (v := 2) (by decide) dL_law_984 rfl (fr_Vk ?_))
  refine fr_kV (fr_iadd (hgX σm) dL_law_985 rfl (fr_Vk ?_))
  refine fr_ksld (hgX σm) hX hbl hbA (nI_add j 2) (by omega) dL_law_986 rfl ?_
  refine fr_kV (fr_aload_n (hgX σm) 0 rfl dL_law_987 rfl (fr_Vk ?_))
  refine fr_kV (fr_iload_n (hgX σm) 3 rfl dL_law_988 rfl (fr_Vk ?_))
  refine fr_kV (fr_iconst (hgX σm) (v := 3) (by decide) dL_law_989 rfl (fr_Vk ?_))
  refine fr_kV (fr_iadd (hgX σm) dL_law_990 rfl (fr_Vk ?_))
  refine fr_ksld (hgX σm) hX hbl hbA (nI_add j 3) (by omega) dL_law_991 rfl ?_
  refine fr_kV (fr_aload_n (hgX σm) 0 rfl dL_law_992 rfl (fr_Vk ?_))
  refine fr_kV (fr_iload_n (hgX σm) 3 rfl dL_law_993 rfl (fr_Vk ?_))
  refine fr_kV (fr_iconst (hgX σm) (v := 4) (by decide) dL_law_994 rfl (fr_Vk ?_))
  refine fr_kV (fr_iadd (hgX σm) dL_law_995 rfl (fr_Vk ?_))
  refine fr_ksld (hgX σm) hX hbl hbA (nI_add j 4) (by omega) dL_law_996 rfl ?_
  refine fr_kci1 (hgX σm) (mX9_cover (xs (j + 1)) (xs (j + 2)) (xs (j + 3)) (xs (j + 4))) (fr_crV (hgX σm) (q := 0) mo_L_111 rfl ⟨_, _, rfl⟩ rfl (by decide) (by decide) (Nat.le_of_ble_eq_true rfl) dL_law_997 rfl) e1 rfl ?_
  refine fr_kV (fr_aload_n (hgX σm) 2 rfl dL_law_1000 rfl (fr_Vk ?_))
  refine fr_kV (fr_aload_n (hgX σm) 0 rfl dL_law_1001 rfl (fr_Vk ?_))
  refine fr_kV (fr_iload_n (hgX σm) 3 rfl dL_law_1002 rfl (fr_Vk ?_))
  refine fr_kV (fr_iconst (hgX σm) (v := 1) (by decide) dL_law_1003 rfl (fr_Vk ?_))
  refine fr_kV (fr_iadd (hgX σm) dL_law_1004 rfl (fr_Vk ?_))
  refine fr_ksld (hgX σm) hX hbl hbA (nI_add j 1) (by omega) dL_law_1005 rfl ?_
  refine fr_kV (fr_aload_n (hgX σm) 0 rfl dL_law_1006 rfl (fr_Vk ?_))
  refine fr_kV (fr_iload_n (hgX σm) 3 rfl dL_law_1007 rfl (fr_Vk ?_))
  refine fr_kV (fr_iconst (hgX σm) (v := 2) (by decide) dL_law_1008 rfl (fr_Vk ?_))
  refine fr_kV (fr_iadd (hgX σm) dL_law_1009 rfl (fr_Vk ?_))
  refine fr_ksld (hgX σm) hX hbl hbA (nI_add j 2) (by omega) dL_law_1010 rfl ?_
  refine fr_kV (fr_aload_n (hgX σm) 0 rfl dL_law_1011 rfl (fr_Vk ?_))
  refine fr_kV (fr_iload_n (hgX σm) 3 rfl dL_law_1012 rfl (fr_Vk ?_))
  refine fr_kV (fr_iconst (hgX σm) (v := 3) (by decide) dL_law_1013 rfl (fr_Vk ?_))
  refine fr_kV (fr_iadd (hgX σm) dL_law_1014 rfl (fr_Vk ?_))
  refine fr_ksld (hgX σm) hX hbl hbA (nI_add j 3) (by omega) dL_law_1015 rfl ?_
  refine fr_kV (fr_aload_n (hgX σm) 0 rfl dL_law_1016 rfl (fr_Vk ?_))
  refine fr_kV (fr_iload_n (hgX σm) 3 rfl dL_law_1017 rfl (fr_Vk ?_))
  refine fr_kV (fr_iconst (hgX σm) (v := 4) (by decide) dL_law_1018 rfl (fr_Vk ?_))
  refine fr_kV (fr_iadd (hgX σm) dL_law_1019 rfl (fr_Vk ?_))
  refine fr_ksld (hgX σm) hX hbl hbA (nI_add j 4) (by omega) dL_law_1020 rfl ?_
  refine fr_swap ?_
  refine fr_kci2 (hgM σx) (mX10_cover (xs (j + 1)) (xs (j + 2)) (xs (j + 3)) (xs (j + 4))) (fr_crV (hgM σx) (q := 0) mo_L_114 rfl ⟨_, _, rfl⟩ rfl (by decide) (by decide) (Nat.le_of_ble_eq_true rfl) dL_law_1021 rfl) e2 rfl ?_
  refine fr_swap2 ?_
  exact fr_keq (hgX σm') rfl dL_law_1024 (by decide) (ih σx σm' e3)
def sm_car (Rel : fr_St → fr_St → Prop) : Prop := ∀ (σx σm : fr_St) (a1 a2 : Int32), Rel σx σm → ∃ (r : Int32) (σx' : fr_St) (σm' : fr_St), zX9_car σx a1 a2 = some (r, σx') ∧ zX10_car σm a1 a2 = some (r, σm') ∧ Rel σx' σm'
set_option maxRecDepth 100000 in
set_option maxHeartbeats 4000000 in
theorem lc_car (hgX : ∀ σm, fr_ok g (fr_wX D cs A adx adm σm) fr_shX code 4 RL 9 332) (hgM : ∀ σx, fr_ok g (fr_wM D cs A adx adm σx) fr_shM code 4 RL 9 332) (hX : va_X b L xs g.2.2.2.2.1 g.2.2.2.2.1.heap) (hbl : b < g.2.2.2.2.1.heap.size) (hbA : ¬ A b) (hj : j + 6 ≤ L ∧ L < 2 ^ 31) (hs : sm_car Rel) (hR : Rel σx σm) (ih : ∀ σx σm, Rel σx σm → fr_K g (fr_wX D cs A adx adm σm) 4 1449 [(0, .ref b), (1, .ref (adx 0)), (2, .ref (adm 0)), (3, .int (nI j))] [] σx) : fr_K g (fr_wX D cs A adx adm σm) 4 1029 [(0, .ref b), (1, .ref (adx 0)), (2, .ref (adm 0)), (3, .int (nI j))] [] σx := by
  obtain ⟨r, σx', σm', e1, e2, e3⟩ := hs σx σm (xs (j + 1)) (xs (j + 2)) hR
  refine fr_kV (fr_aload_n (hgX σm) 1 rfl dL_law_1029 rfl (fr_Vk ?_))
  refine fr_kV (fr_aload_n (hgX σm) 0 rfl dL_law_1030 rfl (fr_Vk ?_))
  refine fr_kV (fr_iload_n (hgX σm) 3 rfl dL_law_1031 rfl (fr_Vk ?_))
  refine fr_kV (fr_iconst (hgX σm) (v := 1) (by decide) dL_law_1032 rfl (fr_Vk ?_))
  refine fr_kV (fr_iadd (hgX σm) dL_law_1033 rfl (fr_Vk ?_))
  refine fr_ksld (hgX σm) hX hbl hbA (nI_add j 1) (by omega) dL_law_1034 rfl ?_
  refine fr_kV (fr_aload_n (hgX σm) 0 rfl dL_law_1035 rfl (fr_Vk ?_))
  refine fr_kV (fr_iload_n (hgX σm) 3 rfl dL_law_1036 rfl (fr_Vk ?_))
  refine fr_kV (fr_iconst (hgX σm) (v := 2) (by decide) dL_law_1037 rfl (fr_Vk ?_))
  refine fr_kV (fr_iadd (hgX σm) dL_law_1038 rfl (fr_Vk ?_))
  refine fr_ksld (hgX σm) hX hbl hbA (nI_add j 2) (by omega) dL_law_1039 rfl ?_
  refine fr_kci2 (hgX σm) (mX9_car (xs (j + 1)) (xs (j + 2))) (fr_crV (hgX σm) (q := 0) mo_L_115 rfl ⟨_, _, rfl⟩ rfl (by decide) (by decide) (Nat.le_of_ble_eq_true rfl) dL_law_1040 rfl) e1 rfl ?_
  refine fr_kV (fr_aload_n (hgX σm) 2 rfl dL_law_1043 rfl (fr_Vk ?_))
  refine fr_kV (fr_aload_n (hgX σm) 0 rfl dL_law_1044 rfl (fr_Vk ?_))
  refine fr_kV (fr_iload_n (hgX σm) 3 rfl dL_law_1045 rfl (fr_Vk ?_))
  refine fr_kV (fr_iconst (hgX σm) (v := 1) (by decide) dL_law_1046 rfl (fr_Vk ?_))
  refine fr_kV (fr_iadd (hgX σm) dL_law_1047 rfl (fr_Vk ?_))
  refine fr_ksld (hgX σm) hX hbl hbA (nI_add j 1) (by omega) dL_law_1048 rfl ?_
  refine fr_kV (fr_aload_n (hgX σm) 0 rfl dL_law_1049 rfl (fr_Vk ?_))
  refine fr_kV (fr_iload_n (hgX σm) 3 rfl dL_law_1050 rfl (fr_Vk ?_))
  refine fr_kV (fr_iconst (hgX σm) (v := 2) (by decide) dL_law_1051 rfl (fr_Vk ?_))
  refine fr_kV (fr_iadd (hgX σm) dL_law_1052 rfl (fr_Vk ?_))
  refine fr_ksld (hgX σm) hX hbl hbA (nI_add j 2) (by omega) dL_law_1053 rfl ?_
  refine fr_swap ?_
  refine fr_kci2 (hgM σx') (mX10_car (xs (j + 1)) (xs (j + 2))) (fr_crV (hgM σx') (q := 0) mo_L_118 rfl ⟨_, _, rfl⟩ rfl (by decide) (by decide) (Nat.le_of_ble_eq_true rfl) dL_law_1054 rfl) e2 rfl ?_
  refine fr_swap2 ?_
  exact fr_keq (hgX σm') rfl dL_law_1057 (by decide) (ih σx' σm' e3)
def sm_gone (Rel : fr_St → fr_St → Prop) : Prop := ∀ (σx σm : fr_St), Rel σx σm → ∃ (r : Int32) (σx' : fr_St) (σm' : fr_St), zX9_gone σx = some (r, σx') ∧ zX10_gone σm = some (r, σm') ∧ Rel σx' σm'
set_option maxRecDepth 100000 in
set_option maxHeartbeats 4000000 in
theorem lc_gone (hgX : ∀ σm, fr_ok g (fr_wX D cs A adx adm σm) fr_shX code 4 RL 9 332) (hgM : ∀ σx, fr_ok g (fr_wM D cs A adx adm σx) fr_shM code 4 RL 9 332) (hX : va_X b L xs g.2.2.2.2.1 g.2.2.2.2.1.heap) (hbl : b < g.2.2.2.2.1.heap.size) (hbA : ¬ A b) (hj : j + 6 ≤ L ∧ L < 2 ^ 31) (hs : sm_gone Rel) (hR : Rel σx σm) (ih : ∀ σx σm, Rel σx σm → fr_K g (fr_wX D cs A adx adm σm) 4 1449 [(0, .ref b), (1, .ref (adx 0)), (2, .ref (adm 0)), (3, .int (nI j))] [] σx) : fr_K g (fr_wX D cs A adx adm σm) 4 1062 [(0, .ref b), (1, .ref (adx 0)), (2, .ref (adm 0)), (3, .int (nI j))] [] σx := by
  obtain ⟨r, σx', σm', e1, e2, e3⟩ := hs σx σm hR
  refine fr_kV (fr_aload_n (hgX σm) 1 rfl dL_law_1062 rfl (fr_Vk ?_))
  refine fr_kci2 (hgX σm) mX9_gone (fr_crV (hgX σm) (q := 0) mo_L_119 rfl ⟨_, _, rfl⟩ rfl (by decide) (by decide) (Nat.le_of_ble_eq_true rfl) dL_law_1063 rfl) e1 rfl ?_
  refine fr_kV (fr_aload_n (hgX σm) 2 rfl dL_law_1066 rfl (fr_Vk ?_))
  refine fr_swap ?_
  refine fr_kci2 (hgM σx') mX10_gone (fr_crV (hgM σx') (q := 0) mo_L_122 rfl ⟨_, _, rfl⟩ rfl (by decide) (by decide) (Nat.le_of_ble_eq_true rfl) dL_law_1067 rfl) e2 rfl ?_
  refine fr_swap2 ?_
  exact fr_keq (hgX σm') rfl dL_law_1070 (by decide) (ih σx' σm' e3)
def sm_lent (Rel : fr_St → fr_St → Prop) : Prop := ∀ (σx σm : fr_St) (a1 : Int32), Rel σx σm → ∃ (r : Int32) (σm' : fr_St), zX9_lent σx a1 = some r ∧ zX10_lent σm a1 = some (r, σm') ∧ Rel σx σm'
set_option maxRecDepth 100000 in
set_option maxHeartbeats 4000000 in
theorem lc_lent (hgX : ∀ σm, fr_ok g (fr_wX D cs A adx adm σm) fr_shX code 4 RL 9 332) (hgM : ∀ σx, fr_ok g (fr_wM D cs A adx adm σx) fr_shM code 4 RL 9 332) (hX : va_X b L xs g.2.2.2.2.1 g.2.2.2.2.1.heap) (hbl : b < g.2.2.2.2.1.heap.size) (hbA : ¬ A b) (hj : j + 6 ≤ L ∧ L < 2 ^ 31) (hs : sm_lent Rel) (hR : Rel σx σm) (ih : ∀ σx σm, Rel σx σm → fr_K g (fr_wX D cs A adx adm σm) 4 1449 [(0, .ref b), (1, .ref (adx 0)), (2, .ref (adm 0)), (3, .int (nI j))] [] σx) : fr_K g (fr_wX D cs A adx adm σm) 4 1075 [(0, .ref b), (1, .ref (adx 0)), (2, .ref (adm 0)), (3, .int (nI j))] [] σx := by
  obtain ⟨r, σm', e1, e2, e3⟩ := hs σx σm (xs (j + 1)) hR
  refine fr_kV (fr_aload_n (hgX σm) 1 rfl dL_law_1075 rfl (fr_Vk ?_))
  refine fr_kV (fr_aload_n (hgX σm) 0 rfl dL_law_1076 rfl (fr_Vk ?_))
  refine fr_kV (fr_iload_n (hgX σm) 3 rfl dL_law_1077 rfl (fr_Vk ?_))
  refine fr_kV (fr_iconst (hgX σm) (v := 1) (by decide) dL_law_1078 rfl (fr_Vk ?_))
  refine fr_kV (fr_iadd (hgX σm) dL_law_1079 rfl (fr_Vk ?_))
  refine fr_ksld (hgX σm) hX hbl hbA (nI_add j 1) (by omega) dL_law_1080 rfl ?_
  refine fr_kci1 (hgX σm) (mX9_lent (xs (j + 1))) (fr_crV (hgX σm) (q := 0) mo_L_123 rfl ⟨_, _, rfl⟩ rfl (by decide) (by decide) (Nat.le_of_ble_eq_true rfl) dL_law_1081 rfl) e1 rfl ?_
  refine fr_kV (fr_aload_n (hgX σm) 2 rfl dL_law_1084 rfl (fr_Vk ?_))
  refine fr_kV (fr_aload_n (hgX σm) 0 rfl dL_law_1085 rfl (fr_Vk ?_))
  refine fr_kV (fr_iload_n (hgX σm) 3 rfl dL_law_1086 rfl (fr_Vk ?_))
  refine fr_kV (fr_iconst (hgX σm) (v := 1) (by decide) dL_law_1087 rfl (fr_Vk ?_))
  refine fr_kV (fr_iadd (hgX σm) dL_law_1088 rfl (fr_Vk ?_))
  refine fr_ksld (hgX σm) hX hbl hbA (nI_add j 1) (by omega) dL_law_1089 rfl ?_
  refine fr_swap ?_
  refine fr_kci2 (hgM σx) (mX10_lent (xs (j + 1))) (fr_crV (hgM σx) (q := 0) mo_L_126 rfl ⟨_, _, rfl⟩ rfl (by decide) (by decide) (Nat.le_of_ble_eq_true rfl) dL_law_1090 rfl) e2 rfl ?_
  refine fr_swap2 ?_
  exact fr_keq (hgX σm') rfl dL_law_1093 (by decide) (ih σx σm' e3)
def sm_faced (Rel : fr_St → fr_St → Prop) : Prop := ∀ (σx σm : fr_St), Rel σx σm → ∃ (r : Int32) (σm' : fr_St), zX9_faced σx = some r ∧ zX10_faced σm = some (r, σm') ∧ Rel σx σm'
set_option maxRecDepth 100000 in
set_option maxHeartbeats 4000000 in
theorem lc_faced (hgX : ∀ σm, fr_ok g (fr_wX D cs A adx adm σm) fr_shX code 4 RL 9 332) (hgM : ∀ σx, fr_ok g (fr_wM D cs A adx adm σx) fr_shM code 4 RL 9 332) (hX : va_X b L xs g.2.2.2.2.1 g.2.2.2.2.1.heap) (hbl : b < g.2.2.2.2.1.heap.size) (hbA : ¬ A b) (hj : j + 6 ≤ L ∧ L < 2 ^ 31) (hs : sm_faced Rel) (hR : Rel σx σm) (ih : ∀ σx σm, Rel σx σm → fr_K g (fr_wX D cs A adx adm σm) 4 1449 [(0, .ref b), (1, .ref (adx 0)), (2, .ref (adm 0)), (3, .int (nI j))] [] σx) : fr_K g (fr_wX D cs A adx adm σm) 4 1098 [(0, .ref b), (1, .ref (adx 0)), (2, .ref (adm 0)), (3, .int (nI j))] [] σx := by
  obtain ⟨r, σm', e1, e2, e3⟩ := hs σx σm hR
  refine fr_kV (fr_aload_n (hgX σm) 1 rfl dL_law_1098 rfl (fr_Vk ?_))
  refine fr_kci1 (hgX σm) mX9_faced (fr_crV (hgX σm) (q := 0) mo_L_127 rfl ⟨_, _, rfl⟩ rfl (by decide) (by decide) (Nat.le_of_ble_eq_true rfl) dL_law_1099 rfl) e1 rfl ?_
  refine fr_kV (fr_aload_n (hgX σm) 2 rfl dL_law_1102 rfl (fr_Vk ?_))
  refine fr_swap ?_
  refine fr_kci2 (hgM σx) mX10_faced (fr_crV (hgM σx) (q := 0) mo_L_130 rfl ⟨_, _, rfl⟩ rfl (by decide) (by decide) (Nat.le_of_ble_eq_true rfl) dL_law_1103 rfl) e2 rfl ?_
  refine fr_swap2 ?_
  exact fr_keq (hgX σm') rfl dL_law_1106 (by decide) (ih σx σm' e3)
def sm_bend (Rel : fr_St → fr_St → Prop) : Prop := ∀ (σx σm : fr_St) (a1 a2 a3 : Int32), Rel σx σm → ∃ (r : Int32) (σx' : fr_St) (σm' : fr_St), zX9_bend σx a1 a2 a3 = some (r, σx') ∧ zX10_bend σm a1 a2 a3 = some (r, σm') ∧ Rel σx' σm'
set_option maxRecDepth 100000 in
set_option maxHeartbeats 4000000 in
theorem lc_bend (hgX : ∀ σm, fr_ok g (fr_wX D cs A adx adm σm) fr_shX code 4 RL 9 332) (hgM : ∀ σx, fr_ok g (fr_wM D cs A adx adm σx) fr_shM code 4 RL 9 332) (hX : va_X b L xs g.2.2.2.2.1 g.2.2.2.2.1.heap) (hbl : b < g.2.2.2.2.1.heap.size) (hbA : ¬ A b) (hj : j + 6 ≤ L ∧ L < 2 ^ 31) (hs : sm_bend Rel) (hR : Rel σx σm) (ih : ∀ σx σm, Rel σx σm → fr_K g (fr_wX D cs A adx adm σm) 4 1449 [(0, .ref b), (1, .ref (adx 0)), (2, .ref (adm 0)), (3, .int (nI j))] [] σx) : fr_K g (fr_wX D cs A adx adm σm) 4 1111 [(0, .ref b), (1, .ref (adx 0)), (2, .ref (adm 0)), (3, .int (nI j))] [] σx := by
  obtain ⟨r, σx', σm', e1, e2, e3⟩ := hs σx σm (xs (j + 1)) (xs (j + 2)) (xs (j + 3)) hR
  refine fr_kV (fr_aload_n (hgX σm) 1 rfl dL_law_1111 rfl (fr_Vk ?_))
  refine fr_kV (fr_aload_n (hgX σm) 0 rfl dL_law_1112 rfl (fr_Vk ?_))
  refine fr_kV (fr_iload_n (hgX σm) 3 rfl dL_law_1113 rfl (fr_Vk ?_))
  refine fr_kV (fr_iconst (hgX σm) (v := 1) (by decide) dL_law_1114 rfl (fr_Vk ?_))
  refine fr_kV (fr_iadd (hgX σm) dL_law_1115 rfl (fr_Vk ?_))
  refine fr_ksld (hgX σm) hX hbl hbA (nI_add j 1) (by omega) dL_law_1116 rfl ?_
  refine fr_kV (fr_aload_n (hgX σm) 0 rfl dL_law_1117 rfl (fr_Vk ?_))
  refine fr_kV (fr_iload_n (hgX σm) 3 rfl dL_law_1118 rfl (fr_Vk ?_))
  refine fr_kV (fr_iconst (hgX σm) (v := 2) (by decide) dL_law_1119 rfl (fr_Vk ?_))
  refine fr_kV (fr_iadd (hgX σm) dL_law_1120 rfl (fr_Vk ?_))
  refine fr_ksld (hgX σm) hX hbl hbA (nI_add j 2) (by omega) dL_law_1121 rfl ?_
  refine fr_kV (fr_aload_n (hgX σm) 0 rfl dL_law_1122 rfl (fr_Vk ?_))
  refine fr_kV (fr_iload_n (hgX σm) 3 rfl dL_law_1123 rfl (fr_Vk ?_))
  refine fr_kV (fr_iconst (hgX σm) (v := 3) (by decide) dL_law_1124 rfl (fr_Vk ?_))
  refine fr_kV (fr_iadd (hgX σm) dL_law_1125 rfl (fr_Vk ?_))
  refine fr_ksld (hgX σm) hX hbl hbA (nI_add j 3) (by omega) dL_law_1126 rfl ?_
  refine fr_kci2 (hgX σm) (mX9_bend (xs (j + 1)) (xs (j + 2)) (xs (j + 3))) (fr_crV (hgX σm) (q := 0) mo_L_131 rfl ⟨_, _, rfl⟩ rfl (by decide) (by decide) (Nat.le_of_ble_eq_true rfl) dL_law_1127 rfl) e1 rfl ?_
  refine fr_kV (fr_aload_n (hgX σm) 2 rfl dL_law_1130 rfl (fr_Vk ?_))
  refine fr_kV (fr_aload_n (hgX σm) 0 rfl dL_law_1131 rfl (fr_Vk ?_))
  refine fr_kV (fr_iload_n (hgX σm) 3 rfl dL_law_1132 rfl (fr_Vk ?_))
  refine fr_kV (fr_iconst (hgX σm) (v := 1) (by decide) dL_law_1133 rfl (fr_Vk ?_))
  refine fr_kV (fr_iadd (hgX σm) dL_law_1134 rfl (fr_Vk ?_))
  refine fr_ksld (hgX σm) hX hbl hbA (nI_add j 1) (by omega) dL_law_1135 rfl ?_
  refine fr_kV (fr_aload_n (hgX σm) 0 rfl dL_law_1136 rfl (fr_Vk ?_))
  refine fr_kV (fr_iload_n (hgX σm) 3 rfl dL_law_1137 rfl (fr_Vk ?_))
  refine fr_kV (fr_iconst (hgX σm) (v := 2) (by decide) dL_law_1138 rfl (fr_Vk ?_))
  refine fr_kV (fr_iadd (hgX σm) dL_law_1139 rfl (fr_Vk ?_))
  refine fr_ksld (hgX σm) hX hbl hbA (nI_add j 2) (by omega) dL_law_1140 rfl ?_
  refine fr_kV (fr_aload_n (hgX σm) 0 rfl dL_law_1141 rfl (fr_Vk ?_))
  refine fr_kV (fr_iload_n (hgX σm) 3 rfl dL_law_1142 rfl (fr_Vk ?_))
  refine fr_kV (fr_iconst (hgX σm) (v := 3) (by decide) dL_law_1143 rfl (fr_Vk ?_))
  refine fr_kV (fr_iadd (hgX σm) dL_law_1144 rfl (fr_Vk ?_))
  refine fr_ksld (hgX σm) hX hbl hbA (nI_add j 3) (by omega) dL_law_1145 rfl ?_
  refine fr_swap ?_
  refine fr_kci2 (hgM σx') (mX10_bend (xs (j + 1)) (xs (j + 2)) (xs (j + 3))) (fr_crV (hgM σx') (q := 0) mo_L_134 rfl ⟨_, _, rfl⟩ rfl (by decide) (by decide) (Nat.le_of_ble_eq_true rfl) dL_law_1146 rfl) e2 rfl ?_
  refine fr_swap2 ?_
  exact fr_keq (hgX σm') rfl dL_law_1149 (by decide) (ih σx' σm' e3)
def sm_sheet (Rel : fr_St → fr_St → Prop) : Prop := ∀ (σx σm : fr_St) (a1 a2 a3 : Int32), Rel σx σm → ∃ (r : Int32) (σx' : fr_St) (σm' : fr_St), zX9_sheet σx a1 a2 a3 = some (r, σx') ∧ zX10_sheet σm a1 a2 a3 = some (r, σm') ∧ Rel σx' σm'
set_option maxRecDepth 100000 in
set_option maxHeartbeats 4000000 in
theorem lc_sheet (hgX : ∀ σm, fr_ok g (fr_wX D cs A adx adm σm) fr_shX code 4 RL 9 332) (hgM : ∀ σx, fr_ok g (fr_wM D cs A adx adm σx) fr_shM code 4 RL 9 332) (hX : va_X b L xs g.2.2.2.2.1 g.2.2.2.2.1.heap) (hbl : b < g.2.2.2.2.1.heap.size) (hbA : ¬ A b) (hj : j + 6 ≤ L ∧ L < 2 ^ 31) (hs : sm_sheet Rel) (hR : Rel σx σm) (ih : ∀ σx σm, Rel σx σm → fr_K g (fr_wX D cs A adx adm σm) 4 1449 [(0, .ref b), (1, .ref (adx 0)), (2, .ref (adm 0)), (3, .int (nI j))] [] σx) : fr_K g (fr_wX D cs A adx adm σm) 4 1154 [(0, .ref b), (1, .ref (adx 0)), (2, .ref (adm 0)), (3, .int (nI j))] [] σx := by
  obtain ⟨r, σx', σm', e1, e2, e3⟩ := hs σx σm (xs (j + 1)) (xs (j + 2)) (xs (j + 3)) hR
  refine fr_kV (fr_aload_n (hgX σm) 1 rfl dL_law_1154 rfl (fr_Vk ?_))
  refine fr_kV (fr_aload_n (hgX σm) 0 rfl dL_law_1155 rfl (fr_Vk ?_))
  refine fr_kV (fr_iload_n (hgX σm) 3 rfl dL_law_1156 rfl (fr_Vk ?_))
  refine fr_kV (fr_iconst (hgX σm) (v := 1) (by decide) dL_law_1157 rfl (fr_Vk ?_))
  refine fr_kV (fr_iadd (hgX σm) dL_law_1158 rfl (fr_Vk ?_))
  refine fr_ksld (hgX σm) hX hbl hbA (nI_add j 1) (by omega) dL_law_1159 rfl ?_
  refine fr_kV (fr_aload_n (hgX σm) 0 rfl dL_law_1160 rfl (fr_Vk ?_))
  refine fr_kV (fr_iload_n (hgX σm) 3 rfl dL_law_1161 rfl (fr_Vk ?_))
  refine fr_kV (fr_iconst (hgX σm) (v := 2) (by decide) dL_law_1162 rfl (fr_Vk ?_))
  refine fr_kV (fr_iadd (hgX σm) dL_law_1163 rfl (fr_Vk ?_))
  refine fr_ksld (hgX σm) hX hbl hbA (nI_add j 2) (by omega) dL_law_1164 rfl ?_
  refine fr_kV (fr_aload_n (hgX σm) 0 rfl dL_law_1165 rfl (fr_Vk ?_))
  refine fr_kV (fr_iload_n (hgX σm) 3 rfl dL_law_1166 rfl (fr_Vk ?_))
  refine fr_kV (fr_iconst (hgX σm) (v := 3) (by decide) dL_law_1167 rfl (fr_Vk ?_))
  refine fr_kV (fr_iadd (hgX σm) dL_law_1168 rfl (fr_Vk ?_))
  refine fr_ksld (hgX σm) hX hbl hbA (nI_add j 3) (by omega) dL_law_1169 rfl ?_
  refine fr_kci2 (hgX σm) (mX9_sheet (xs (j + 1)) (xs (j + 2)) (xs (j + 3))) (fr_crV (hgX σm) (q := 0) mo_L_135 rfl ⟨_, _, rfl⟩ rfl (by decide) (by decide) (Nat.le_of_ble_eq_true rfl) dL_law_1170 rfl) e1 rfl ?_
  refine fr_kV (fr_aload_n (hgX σm) 2 rfl dL_law_1173 rfl (fr_Vk ?_))
  refine fr_kV (fr_aload_n (hgX σm) 0 rfl dL_law_1174 rfl (fr_Vk ?_))
  refine fr_kV (fr_iload_n (hgX σm) 3 rfl dL_law_1175 rfl (fr_Vk ?_))
  refine fr_kV (fr_iconst (hgX σm) (v := 1) (by decide) dL_law_1176 rfl (fr_Vk ?_))
  refine fr_kV (fr_iadd (hgX σm) dL_law_1177 rfl (fr_Vk ?_))
  refine fr_ksld (hgX σm) hX hbl hbA (nI_add j 1) (by omega) dL_law_1178 rfl ?_
  refine fr_kV (fr_aload_n (hgX σm) 0 rfl dL_law_1179 rfl (fr_Vk ?_))
  refine fr_kV (fr_iload_n (hgX σm) 3 rfl dL_law_1180 rfl (fr_Vk ?_))
  refine fr_kV (fr_iconst (hgX σm) (v := 2) (by decide) dL_law_1181 rfl (fr_Vk ?_))
  refine fr_kV (fr_iadd (hgX σm) dL_law_1182 rfl (fr_Vk ?_))
  refine fr_ksld (hgX σm) hX hbl hbA (nI_add j 2) (by omega) dL_law_1183 rfl ?_
  refine fr_kV (fr_aload_n (hgX σm) 0 rfl dL_law_1184 rfl (fr_Vk ?_))
  refine fr_kV (fr_iload_n (hgX σm) 3 rfl dL_law_1185 rfl (fr_Vk ?_))
  refine fr_kV (fr_iconst (hgX σm) (v := 3) (by decide) dL_law_1186 rfl (fr_Vk ?_))
  refine fr_kV (fr_iadd (hgX σm) dL_law_1187 rfl (fr_Vk ?_))
  refine fr_ksld (hgX σm) hX hbl hbA (nI_add j 3) (by omega) dL_law_1188 rfl ?_
  refine fr_swap ?_
  refine fr_kci2 (hgM σx') (mX10_sheet (xs (j + 1)) (xs (j + 2)) (xs (j + 3))) (fr_crV (hgM σx') (q := 0) mo_L_138 rfl ⟨_, _, rfl⟩ rfl (by decide) (by decide) (Nat.le_of_ble_eq_true rfl) dL_law_1189 rfl) e2 rfl ?_
  refine fr_swap2 ?_
  exact fr_keq (hgX σm') rfl dL_law_1192 (by decide) (ih σx' σm' e3)
def sm_lose (Rel : fr_St → fr_St → Prop) : Prop := ∀ (σx σm : fr_St) (a1 : Int32), Rel σx σm → ∃ (r : Int32) (σx' : fr_St) (σm' : fr_St), zX9_lose σx a1 = some (r, σx') ∧ zX10_lose σm a1 = some (r, σm') ∧ Rel σx' σm'
set_option maxRecDepth 100000 in
set_option maxHeartbeats 4000000 in
theorem lc_lose (hgX : ∀ σm, fr_ok g (fr_wX D cs A adx adm σm) fr_shX code 4 RL 9 332) (hgM : ∀ σx, fr_ok g (fr_wM D cs A adx adm σx) fr_shM code 4 RL 9 332) (hX : va_X b L xs g.2.2.2.2.1 g.2.2.2.2.1.heap) (hbl : b < g.2.2.2.2.1.heap.size) (hbA : ¬ A b) (hj : j + 6 ≤ L ∧ L < 2 ^ 31) (hs : sm_lose Rel) (hR : Rel σx σm) (ih : ∀ σx σm, Rel σx σm → fr_K g (fr_wX D cs A adx adm σm) 4 1449 [(0, .ref b), (1, .ref (adx 0)), (2, .ref (adm 0)), (3, .int (nI j))] [] σx) : fr_K g (fr_wX D cs A adx adm σm) 4 1197 [(0, .ref b), (1, .ref (adx 0)), (2, .ref (adm 0)), (3, .int (nI j))] [] σx := by
  obtain ⟨r, σx', σm', e1, e2, e3⟩ := hs σx σm (xs (j + 1)) hR
  refine fr_kV (fr_aload_n (hgX σm) 1 rfl dL_law_1197 rfl (fr_Vk ?_))
  refine fr_kV (fr_aload_n (hgX σm) 0 rfl dL_law_1198 rfl (fr_Vk ?_))
  refine fr_kV (fr_iload_n (hgX σm) 3 rfl dL_law_1199 rfl (fr_Vk ?_))
  refine fr_kV (fr_iconst (hgX σm) (v := 1) (by decide) dL_law_1200 rfl (fr_Vk ?_))
  refine fr_kV (fr_iadd (hgX σm) dL_law_1201 rfl (fr_Vk ?_))
  refine fr_ksld (hgX σm) hX hbl hbA (nI_add j 1) (by omega) dL_law_1202 rfl ?_
  refine fr_kci2 (hgX σm) (mX9_lose (xs (j + 1))) (fr_crV (hgX σm) (q := 0) mo_L_139 rfl ⟨_, _, rfl⟩ rfl (by decide) (by decide) (Nat.le_of_ble_eq_true rfl) dL_law_1203 rfl) e1 rfl ?_
  refine fr_kV (fr_aload_n (hgX σm) 2 rfl dL_law_1206 rfl (fr_Vk ?_))
  refine fr_kV (fr_aload_n (hgX σm) 0 rfl dL_law_1207 rfl (fr_Vk ?_))
  refine fr_kV (fr_iload_n (hgX σm) 3 rfl dL_law_1208 rfl (fr_Vk ?_))
  refine fr_kV (fr_iconst (hgX σm) (v := 1) (by decide) dL_law_1209 rfl (fr_Vk ?_))
  refine fr_kV (fr_iadd (hgX σm) dL_law_1210 rfl (fr_Vk ?_))
  refine fr_ksld (hgX σm) hX hbl hbA (nI_add j 1) (by omega) dL_law_1211 rfl ?_
  refine fr_swap ?_
  refine fr_kci2 (hgM σx') (mX10_lose (xs (j + 1))) (fr_crV (hgM σx') (q := 0) mo_L_142 rfl ⟨_, _, rfl⟩ rfl (by decide) (by decide) (Nat.le_of_ble_eq_true rfl) dL_law_1212 rfl) e2 rfl ?_
  refine fr_swap2 ?_
  exact fr_keq (hgX σm') rfl dL_law_1215 (by decide) (ih σx' σm' e3)
def sm_lay (Rel : fr_St → fr_St → Prop) : Prop := ∀ (σx σm : fr_St) (a1 a2 a3 a4 : Int32), Rel σx σm → ∃ (r : Int32) (σx' : fr_St) (σm' : fr_St), zX9_lay σx a1 a2 a3 a4 = some (r, σx') ∧ zX10_lay σm a1 a2 a3 a4 = some (r, σm') ∧ Rel σx' σm'
set_option maxRecDepth 100000 in
set_option maxHeartbeats 4000000 in
theorem lc_lay (hgX : ∀ σm, fr_ok g (fr_wX D cs A adx adm σm) fr_shX code 4 RL 9 332) (hgM : ∀ σx, fr_ok g (fr_wM D cs A adx adm σx) fr_shM code 4 RL 9 332) (hX : va_X b L xs g.2.2.2.2.1 g.2.2.2.2.1.heap) (hbl : b < g.2.2.2.2.1.heap.size) (hbA : ¬ A b) (hj : j + 6 ≤ L ∧ L < 2 ^ 31) (hs : sm_lay Rel) (hR : Rel σx σm) (ih : ∀ σx σm, Rel σx σm → fr_K g (fr_wX D cs A adx adm σm) 4 1449 [(0, .ref b), (1, .ref (adx 0)), (2, .ref (adm 0)), (3, .int (nI j))] [] σx) : fr_K g (fr_wX D cs A adx adm σm) 4 1220 [(0, .ref b), (1, .ref (adx 0)), (2, .ref (adm 0)), (3, .int (nI j))] [] σx := by
  obtain ⟨r, σx', σm', e1, e2, e3⟩ := hs σx σm (xs (j + 1)) (xs (j + 2)) (xs (j + 3)) (xs (j + 4)) hR
  refine fr_kV (fr_aload_n (hgX σm) 1 rfl dL_law_1220 rfl (fr_Vk ?_))
  refine fr_kV (fr_aload_n (hgX σm) 0 rfl dL_law_1221 rfl (fr_Vk ?_))
  refine fr_kV (fr_iload_n (hgX σm) 3 rfl dL_law_1222 rfl (fr_Vk ?_))
  refine fr_kV (fr_iconst (hgX σm) (v := 1) (by decide) dL_law_1223 rfl (fr_Vk ?_))
  refine fr_kV (fr_iadd (hgX σm) dL_law_1224 rfl (fr_Vk ?_))
  refine fr_ksld (hgX σm) hX hbl hbA (nI_add j 1) (by omega) dL_law_1225 rfl ?_
  refine fr_kV (fr_aload_n (hgX σm) 0 rfl dL_law_1226 rfl (fr_Vk ?_))
  refine fr_kV (fr_iload_n (hgX σm) 3 rfl dL_law_1227 rfl (fr_Vk ?_))
  refine fr_kV (fr_iconst (hgX σm) (v := 2) (by decide) dL_law_1228 rfl (fr_Vk ?_))
  refine fr_kV (fr_iadd (hgX σm) dL_law_1229 rfl (fr_Vk ?_))
  refine fr_ksld (hgX σm) hX hbl hbA (nI_add j 2) (by omega) dL_law_1230 rfl ?_
  refine fr_kV (fr_aload_n (hgX σm) 0 rfl dL_law_1231 rfl (fr_Vk ?_))
  refine fr_kV (fr_iload_n (hgX σm) 3 rfl dL_law_1232 rfl (fr_Vk ?_))
  refine fr_kV (fr_iconst (hgX σm) (v := 3) (by decide) dL_law_1233 rfl (fr_Vk ?_))
  refine fr_kV (fr_iadd (hgX σm) dL_law_1234 rfl (fr_Vk ?_))
  refine fr_ksld (hgX σm) hX hbl hbA (nI_add j 3) (by omega) dL_law_1235 rfl ?_
  refine fr_kV (fr_aload_n (hgX σm) 0 rfl dL_law_1236 rfl (fr_Vk ?_))
  refine fr_kV (fr_iload_n (hgX σm) 3 rfl dL_law_1237 rfl (fr_Vk ?_))
  refine fr_kV (fr_iconst (hgX σm) (v := 4) (by decide) dL_law_1238 rfl (fr_Vk ?_))
  refine fr_kV (fr_iadd (hgX σm) dL_law_1239 rfl (fr_Vk ?_))
  refine fr_ksld (hgX σm) hX hbl hbA (nI_add j 4) (by omega) dL_law_1240 rfl ?_
  refine fr_kci2 (hgX σm) (mX9_lay (xs (j + 1)) (xs (j + 2)) (xs (j + 3)) (xs (j + 4))) (fr_crV (hgX σm) (q := 0) mo_L_143 rfl ⟨_, _, rfl⟩ rfl (by decide) (by decide) (Nat.le_of_ble_eq_true rfl) dL_law_1241 rfl) e1 rfl ?_
  refine fr_kV (fr_aload_n (hgX σm) 2 rfl dL_law_1244 rfl (fr_Vk ?_))
  refine fr_kV (fr_aload_n (hgX σm) 0 rfl dL_law_1245 rfl (fr_Vk ?_))
  refine fr_kV (fr_iload_n (hgX σm) 3 rfl dL_law_1246 rfl (fr_Vk ?_))
  refine fr_kV (fr_iconst (hgX σm) (v := 1) (by decide) dL_law_1247 rfl (fr_Vk ?_))
  refine fr_kV (fr_iadd (hgX σm) dL_law_1248 rfl (fr_Vk ?_))
  refine fr_ksld (hgX σm) hX hbl hbA (nI_add j 1) (by omega) dL_law_1249 rfl ?_
  refine fr_kV (fr_aload_n (hgX σm) 0 rfl dL_law_1250 rfl (fr_Vk ?_))
  refine fr_kV (fr_iload_n (hgX σm) 3 rfl dL_law_1251 rfl (fr_Vk ?_))
  refine fr_kV (fr_iconst (hgX σm) (v := 2) (by decide) dL_law_1252 rfl (fr_Vk ?_))
  refine fr_kV (fr_iadd (hgX σm) dL_law_1253 rfl (fr_Vk ?_))
  refine fr_ksld (hgX σm) hX hbl hbA (nI_add j 2) (by omega) dL_law_1254 rfl ?_
  refine fr_kV (fr_aload_n (hgX σm) 0 rfl dL_law_1255 rfl (fr_Vk ?_))
  refine fr_kV (fr_iload_n (hgX σm) 3 rfl dL_law_1256 rfl (fr_Vk ?_))
  refine fr_kV (fr_iconst (hgX σm) (v := 3) (by decide) dL_law_1257 rfl (fr_Vk ?_))
  refine fr_kV (fr_iadd (hgX σm) dL_law_1258 rfl (fr_Vk ?_))
  refine fr_ksld (hgX σm) hX hbl hbA (nI_add j 3) (by omega) dL_law_1259 rfl ?_
  refine fr_kV (fr_aload_n (hgX σm) 0 rfl dL_law_1260 rfl (fr_Vk ?_))
  refine fr_kV (fr_iload_n (hgX σm) 3 rfl dL_law_1261 rfl (fr_Vk ?_))
  refine fr_kV (fr_iconst (hgX σm) (v := 4) (by decide) dL_law_1262 rfl (fr_Vk ?_))
  refine fr_kV (fr_iadd (hgX σm) dL_law_1263 rfl (fr_Vk ?_))
  refine fr_ksld (hgX σm) hX hbl hbA (nI_add j 4) (by omega) dL_law_1264 rfl ?_
  refine fr_swap ?_
  refine fr_kci2 (hgM σx') (mX10_lay (xs (j + 1)) (xs (j + 2)) (xs (j + 3)) (xs (j + 4))) (fr_crV (hgM σx') (q := 0) mo_L_146 rfl ⟨_, _, rfl⟩ rfl (by decide) (by decide) (Nat.le_of_ble_eq_true rfl) dL_law_1265 rfl) e2 rfl ?_
  refine fr_swap2 ?_
  exact fr_keq (hgX σm') rfl dL_law_1268 (by decide) (ih σx' σm' e3)
def sm_get (Rel : fr_St → fr_St → Prop) : Prop := ∀ (σx σm : fr_St) (a1 a2 a3 : Int32), Rel σx σm → ∃ (r : Int32) (σx' : fr_St) (σm' : fr_St), zX9_get σx a1 a2 a3 = some (r, σx') ∧ zX10_get σm a1 a2 a3 = some (r, σm') ∧ Rel σx' σm'
set_option maxRecDepth 100000 in
set_option maxHeartbeats 4000000 in
theorem lc_get (hgX : ∀ σm, fr_ok g (fr_wX D cs A adx adm σm) fr_shX code 4 RL 9 332) (hgM : ∀ σx, fr_ok g (fr_wM D cs A adx adm σx) fr_shM code 4 RL 9 332) (hX : va_X b L xs g.2.2.2.2.1 g.2.2.2.2.1.heap) (hbl : b < g.2.2.2.2.1.heap.size) (hbA : ¬ A b) (hj : j + 6 ≤ L ∧ L < 2 ^ 31) (hs : sm_get Rel) (hR : Rel σx σm) (ih : ∀ σx σm, Rel σx σm → fr_K g (fr_wX D cs A adx adm σm) 4 1449 [(0, .ref b), (1, .ref (adx 0)), (2, .ref (adm 0)), (3, .int (nI j))] [] σx) : fr_K g (fr_wX D cs A adx adm σm) 4 1273 [(0, .ref b), (1, .ref (adx 0)), (2, .ref (adm 0)), (3, .int (nI j))] [] σx := by
  obtain ⟨r, σx', σm', e1, e2, e3⟩ := hs σx σm (xs (j + 1)) (xs (j + 2)) (xs (j + 3)) hR
  refine fr_kV (fr_aload_n (hgX σm) 1 rfl dL_law_1273 rfl (fr_Vk ?_))
  refine fr_kV (fr_aload_n (hgX σm) 0 rfl dL_law_1274 rfl (fr_Vk ?_))
  refine fr_kV (fr_iload_n (hgX σm) 3 rfl dL_law_1275 rfl (fr_Vk ?_))
  refine fr_kV (fr_iconst (hgX σm) (v := 1) (by decide) dL_law_1276 rfl (fr_Vk ?_))
  refine fr_kV (fr_iadd (hgX σm) dL_law_1277 rfl (fr_Vk ?_))
  refine fr_ksld (hgX σm) hX hbl hbA (nI_add j 1) (by omega) dL_law_1278 rfl ?_
  refine fr_kV (fr_aload_n (hgX σm) 0 rfl dL_law_1279 rfl (fr_Vk ?_))
  refine fr_kV (fr_iload_n (hgX σm) 3 rfl dL_law_1280 rfl (fr_Vk ?_))
  refine fr_kV (fr_iconst (hgX σm) (v := 2) (by decide) dL_law_1281 rfl (fr_Vk ?_))
  refine fr_kV (fr_iadd (hgX σm) dL_law_1282 rfl (fr_Vk ?_))
  refine fr_ksld (hgX σm) hX hbl hbA (nI_add j 2) (by omega) dL_law_1283 rfl ?_
  refine fr_kV (fr_aload_n (hgX σm) 0 rfl dL_law_1284 rfl (fr_Vk ?_))
  refine fr_kV (fr_iload_n (hgX σm) 3 rfl dL_law_1285 rfl (fr_Vk ?_))
  refine fr_kV (fr_iconst (hgX σm) (v := 3) (by decide) dL_law_1286 rfl (fr_Vk ?_))
  refine fr_kV (fr_iadd (hgX σm) dL_law_1287 rfl (fr_Vk ?_))
  refine fr_ksld (hgX σm) hX hbl hbA (nI_add j 3) (by omega) dL_law_1288 rfl ?_
  refine fr_kci2 (hgX σm) (mX9_get (xs (j + 1)) (xs (j + 2)) (xs (j + 3))) (fr_crV (hgX σm) (q := 0) mo_L_147 rfl ⟨_, _, rfl⟩ rfl (by decide) (by decide) (Nat.le_of_ble_eq_true rfl) dL_law_1289 rfl) e1 rfl ?_
  refine fr_kV (fr_aload_n (hgX σm) 2 rfl dL_law_1292 rfl (fr_Vk ?_))
  refine fr_kV (fr_aload_n (hgX σm) 0 rfl dL_law_1293 rfl (fr_Vk ?_))
  refine fr_kV (fr_iload_n (hgX σm) 3 rfl dL_law_1294 rfl (fr_Vk ?_))
  refine fr_kV (fr_iconst (hgX σm) (v := 1) (by decide) dL_law_1295 rfl (fr_Vk ?_))
  refine fr_kV (fr_iadd (hgX σm) dL_law_1296 rfl (fr_Vk ?_))
  refine fr_ksld (hgX σm) hX hbl hbA (nI_add j 1) (by omega) dL_law_1297 rfl ?_
  refine fr_kV (fr_aload_n (hgX σm) 0 rfl dL_law_1298 rfl (fr_Vk ?_))
  refine fr_kV (fr_iload_n (hgX σm) 3 rfl dL_law_1299 rfl (fr_Vk ?_))
  refine fr_kV (fr_iconst (hgX σm) (v := 2) (by decide) dL_law_1300 rfl (fr_Vk ?_))
  refine fr_kV (fr_iadd (hgX σm) dL_law_1301 rfl (fr_Vk ?_))
  refine fr_ksld (hgX σm) hX hbl hbA (nI_add j 2) (by omega) dL_law_1302 rfl ?_
  refine fr_kV (fr_aload_n (hgX σm) 0 rfl dL_law_1303 rfl (fr_Vk ?_))
  refine fr_kV (fr_iload_n (hgX σm) 3 rfl dL_law_1304 rfl (fr_Vk ?_))
  refine fr_kV (fr_iconst (hgX σm) (v := 3) (by decide) dL_law_1305 rfl (fr_Vk ?_))
  refine fr_kV (fr_iadd (hgX σm) dL_law_1306 rfl (fr_Vk ?_))
  refine fr_ksld (hgX σm) hX hbl hbA (nI_add j 3) (by omega) dL_law_1307 rfl ?_
  refine fr_swap ?_
  refine fr_kci2 (hgM σx') (mX10_get (xs (j + 1)) (xs (j + 2)) (xs (j + 3))) (fr_crV (hgM σx') (q := 0) mo_L_150 rfl ⟨_, _, rfl⟩ rfl (by decide) (by decide) (Nat.le_of_ble_eq_true rfl) dL_law_1308 rfl) e2 rfl ?_
  refine fr_swap2 ?_
  exact fr_keq (hgX σm') rfl dL_law_1311 (by decide) (ih σx' σm' e3)
def sm_copy (Rel : fr_St → fr_St → Prop) : Prop := ∀ (σx σm : fr_St) (a1 a2 a3 a4 a5 : Int32), Rel σx σm → ∃ (r : Int32) (σx' : fr_St) (σm' : fr_St), zX9_copy σx a1 a2 a3 a4 a5 = some (r, σx') ∧ zX10_copy σm a1 a2 a3 a4 a5 = some (r, σm') ∧ Rel σx' σm'
set_option maxRecDepth 100000 in
set_option maxHeartbeats 4000000 in
theorem lc_copy (hgX : ∀ σm, fr_ok g (fr_wX D cs A adx adm σm) fr_shX code 4 RL 9 332) (hgM : ∀ σx, fr_ok g (fr_wM D cs A adx adm σx) fr_shM code 4 RL 9 332) (hX : va_X b L xs g.2.2.2.2.1 g.2.2.2.2.1.heap) (hbl : b < g.2.2.2.2.1.heap.size) (hbA : ¬ A b) (hj : j + 6 ≤ L ∧ L < 2 ^ 31) (hs : sm_copy Rel) (hR : Rel σx σm) (ih : ∀ σx σm, Rel σx σm → fr_K g (fr_wX D cs A adx adm σm) 4 1449 [(0, .ref b), (1, .ref (adx 0)), (2, .ref (adm 0)), (3, .int (nI j))] [] σx) : fr_K g (fr_wX D cs A adx adm σm) 4 1316 [(0, .ref b), (1, .ref (adx 0)), (2, .ref (adm 0)), (3, .int (nI j))] [] σx := by
  obtain ⟨r, σx', σm', e1, e2, e3⟩ := hs σx σm (xs (j + 1)) (xs (j + 2)) (xs (j + 3)) (xs (j + 4)) (xs (j + 5)) hR
  refine fr_kV (fr_aload_n (hgX σm) 1 rfl dL_law_1316 rfl (fr_Vk ?_))
  refine fr_kV (fr_aload_n (hgX σm) 0 rfl dL_law_1317 rfl (fr_Vk ?_))
  refine fr_kV (fr_iload_n (hgX σm) 3 rfl dL_law_1318 rfl (fr_Vk ?_))
  refine fr_kV (fr_iconst (hgX σm) (v := 1) (by decide) dL_law_1319 rfl (fr_Vk ?_))
  refine fr_kV (fr_iadd (hgX σm) dL_law_1320 rfl (fr_Vk ?_))
  refine fr_ksld (hgX σm) hX hbl hbA (nI_add j 1) (by omega) dL_law_1321 rfl ?_
  refine fr_kV (fr_aload_n (hgX σm) 0 rfl dL_law_1322 rfl (fr_Vk ?_))
  refine fr_kV (fr_iload_n (hgX σm) 3 rfl dL_law_1323 rfl (fr_Vk ?_))
  refine fr_kV (fr_iconst (hgX σm) (v := 2) (by decide) dL_law_1324 rfl (fr_Vk ?_))
  refine fr_kV (fr_iadd (hgX σm) dL_law_1325 rfl (fr_Vk ?_))
  refine fr_ksld (hgX σm) hX hbl hbA (nI_add j 2) (by omega) dL_law_1326 rfl ?_
  refine fr_kV (fr_aload_n (hgX σm) 0 rfl dL_law_1327 rfl (fr_Vk ?_))
  refine fr_kV (fr_iload_n (hgX σm) 3 rfl dL_law_1328 rfl (fr_Vk ?_))
  refine fr_kV (fr_iconst (hgX σm) (v := 3) (by decide) dL_law_1329 rfl (fr_Vk ?_))
  refine fr_kV (fr_iadd (hgX σm) dL_law_1330 rfl (fr_Vk ?_))
  refine fr_ksld (hgX σm) hX hbl hbA (nI_add j 3) (by omega) dL_law_1331 rfl ?_
  refine fr_kV (fr_aload_n (hgX σm) 0 rfl dL_law_1332 rfl (fr_Vk ?_))
  refine fr_kV (fr_iload_n (hgX σm) 3 rfl dL_law_1333 rfl (fr_Vk ?_))
  refine fr_kV (fr_iconst (hgX σm) (v := 4) (by decide) dL_law_1334 rfl (fr_Vk ?_))
  refine fr_kV (fr_iadd (hgX σm) dL_law_1335 rfl (fr_Vk ?_))
  refine fr_ksld (hgX σm) hX hbl hbA (nI_add j 4) (by omega) dL_law_1336 rfl ?_
  refine fr_kV (fr_aload_n (hgX σm) 0 rfl dL_law_1337 rfl (fr_Vk ?_))
  refine fr_kV (fr_iload_n (hgX σm) 3 rfl dL_law_1338 rfl (fr_Vk ?_))
  refine fr_kV (fr_iconst (hgX σm) (v := 5) (by decide) dL_law_1339 rfl (fr_Vk ?_))
  refine fr_kV (fr_iadd (hgX σm) dL_law_1340 rfl (fr_Vk ?_))
  refine fr_ksld (hgX σm) hX hbl hbA (nI_add j 5) (by omega) dL_law_1341 rfl ?_
  refine fr_kci2 (hgX σm) (mX9_copy (xs (j + 1)) (xs (j + 2)) (xs (j + 3)) (xs (j + 4)) (xs (j + 5))) (fr_crV (hgX σm) (q := 0) mo_L_151 rfl ⟨_, _, rfl⟩ rfl (by decide) (by decide) (Nat.le_of_ble_eq_true rfl) dL_law_1342 rfl) e1 rfl ?_
  refine fr_kV (fr_aload_n (hgX σm) 2 rfl dL_law_1345 rfl (fr_Vk ?_))
  refine fr_kV (fr_aload_n (hgX σm) 0 rfl dL_law_1346 rfl (fr_Vk ?_))
  refine fr_kV (fr_iload_n (hgX σm) 3 rfl dL_law_1347 rfl (fr_Vk ?_))
  refine fr_kV (fr_iconst (hgX σm) (v := 1) (by decide) dL_law_1348 rfl (fr_Vk ?_))
  refine fr_kV (fr_iadd (hgX σm) dL_law_1349 rfl (fr_Vk ?_))
  refine fr_ksld (hgX σm) hX hbl hbA (nI_add j 1) (by omega) dL_law_1350 rfl ?_
  refine fr_kV (fr_aload_n (hgX σm) 0 rfl dL_law_1351 rfl (fr_Vk ?_))
  refine fr_kV (fr_iload_n (hgX σm) 3 rfl dL_law_1352 rfl (fr_Vk ?_))
  refine fr_kV (fr_iconst (hgX σm) (v := 2) (by decide) dL_law_1353 rfl (fr_Vk ?_))
  refine fr_kV (fr_iadd (hgX σm) dL_law_1354 rfl (fr_Vk ?_))
  refine fr_ksld (hgX σm) hX hbl hbA (nI_add j 2) (by omega) dL_law_1355 rfl ?_
  refine fr_kV (fr_aload_n (hgX σm) 0 rfl dL_law_1356 rfl (fr_Vk ?_))
  refine fr_kV (fr_iload_n (hgX σm) 3 rfl dL_law_1357 rfl (fr_Vk ?_))
  refine fr_kV (fr_iconst (hgX σm) (v := 3) (by decide) dL_law_1358 rfl (fr_Vk ?_))
  refine fr_kV (fr_iadd (hgX σm) dL_law_1359 rfl (fr_Vk ?_))
  refine fr_ksld (hgX σm) hX hbl hbA (nI_add j 3) (by omega) dL_law_1360 rfl ?_
  refine fr_kV (fr_aload_n (hgX σm) 0 rfl dL_law_1361 rfl (fr_Vk ?_))
  refine fr_kV (fr_iload_n (hgX σm) 3 rfl dL_law_1362 rfl (fr_Vk ?_))
  refine fr_kV (fr_iconst (hgX σm) (v := 4) (by decide) dL_law_1363 rfl (fr_Vk ?_))
  refine fr_kV (fr_iadd (hgX σm) dL_law_1364 rfl (fr_Vk ?_))
  refine fr_ksld (hgX σm) hX hbl hbA (nI_add j 4) (by omega) dL_law_1365 rfl ?_
  refine fr_kV (fr_aload_n (hgX σm) 0 rfl dL_law_1366 rfl (fr_Vk ?_))
  refine fr_kV (fr_iload_n (hgX σm) 3 rfl dL_law_1367 rfl (fr_Vk ?_))
  refine fr_kV (fr_iconst (hgX σm) (v := 5) (by decide) dL_law_1368 rfl (fr_Vk ?_))
  refine fr_kV (fr_iadd (hgX σm) dL_law_1369 rfl (fr_Vk ?_))
  refine fr_ksld (hgX σm) hX hbl hbA (nI_add j 5) (by omega) dL_law_1370 rfl ?_
  refine fr_swap ?_
  refine fr_kci2 (hgM σx') (mX10_copy (xs (j + 1)) (xs (j + 2)) (xs (j + 3)) (xs (j + 4)) (xs (j + 5))) (fr_crV (hgM σx') (q := 0) mo_L_155 rfl ⟨_, _, rfl⟩ rfl (by decide) (by decide) (Nat.le_of_ble_eq_true rfl) dL_law_1371 rfl) e2 rfl ?_
  refine fr_swap2 ?_
  exact fr_keq (hgX σm') rfl dL_law_1374 (by decide) (ih σx' σm' e3)
def sm_write (Rel : fr_St → fr_St → Prop) : Prop := ∀ (σx σm : fr_St) (a1 a2 : Int32), Rel σx σm → ∃ (r : Int32) (σx' : fr_St) (σm' : fr_St), zX9_write σx a1 a2 = some (r, σx') ∧ zX10_write σm a1 a2 = some (r, σm') ∧ Rel σx' σm'
set_option maxRecDepth 100000 in
set_option maxHeartbeats 4000000 in
theorem lc_write (hgX : ∀ σm, fr_ok g (fr_wX D cs A adx adm σm) fr_shX code 4 RL 9 332) (hgM : ∀ σx, fr_ok g (fr_wM D cs A adx adm σx) fr_shM code 4 RL 9 332) (hX : va_X b L xs g.2.2.2.2.1 g.2.2.2.2.1.heap) (hbl : b < g.2.2.2.2.1.heap.size) (hbA : ¬ A b) (hj : j + 6 ≤ L ∧ L < 2 ^ 31) (hs : sm_write Rel) (hR : Rel σx σm) (ih : ∀ σx σm, Rel σx σm → fr_K g (fr_wX D cs A adx adm σm) 4 1449 [(0, .ref b), (1, .ref (adx 0)), (2, .ref (adm 0)), (3, .int (nI j))] [] σx) : fr_K g (fr_wX D cs A adx adm σm) 4 1379 [(0, .ref b), (1, .ref (adx 0)), (2, .ref (adm 0)), (3, .int (nI j))] [] σx := by
  obtain ⟨r, σx', σm', e1, e2, e3⟩ := hs σx σm (xs (j + 1)) (xs (j + 2)) hR
  refine fr_kV (fr_aload_n (hgX σm) 1 rfl dL_law_1379 rfl (fr_Vk ?_))
  refine fr_kV (fr_aload_n (hgX σm) 0 rfl dL_law_1380 rfl (fr_Vk ?_))
  refine fr_kV (fr_iload_n (hgX σm) 3 rfl dL_law_1381 rfl (fr_Vk ?_))
  refine fr_kV (fr_iconst (hgX σm) (v := 1) (by decide) dL_law_1382 rfl (fr_Vk ?_))
  refine fr_kV (fr_iadd (hgX σm) dL_law_1383 rfl (fr_Vk ?_))
  refine fr_ksld (hgX σm) hX hbl hbA (nI_add j 1) (by omega) dL_law_1384 rfl ?_
  refine fr_kV (fr_aload_n (hgX σm) 0 rfl dL_law_1385 rfl (fr_Vk ?_))
  refine fr_kV (fr_iload_n (hgX σm) 3 rfl dL_law_1386 rfl (fr_Vk ?_))
  refine fr_kV (fr_iconst (hgX σm) (v := 2) (by decide) dL_law_1387 rfl (fr_Vk ?_))
  refine fr_kV (fr_iadd (hgX σm) dL_law_1388 rfl (fr_Vk ?_))
  refine fr_ksld (hgX σm) hX hbl hbA (nI_add j 2) (by omega) dL_law_1389 rfl ?_
  refine fr_kci2 (hgX σm) (mX9_write (xs (j + 1)) (xs (j + 2))) (fr_crV (hgX σm) (q := 0) mo_L_156 rfl ⟨_, _, rfl⟩ rfl (by decide) (by decide) (Nat.le_of_ble_eq_true rfl) dL_law_1390 rfl) e1 rfl ?_
  refine fr_kV (fr_aload_n (hgX σm) 2 rfl dL_law_1393 rfl (fr_Vk ?_))
  refine fr_kV (fr_aload_n (hgX σm) 0 rfl dL_law_1394 rfl (fr_Vk ?_))
  refine fr_kV (fr_iload_n (hgX σm) 3 rfl dL_law_1395 rfl (fr_Vk ?_))
  refine fr_kV (fr_iconst (hgX σm) (v := 1) (by decide) dL_law_1396 rfl (fr_Vk ?_))
  refine fr_kV (fr_iadd (hgX σm) dL_law_1397 rfl (fr_Vk ?_))
  refine fr_ksld (hgX σm) hX hbl hbA (nI_add j 1) (by omega) dL_law_1398 rfl ?_
  refine fr_kV (fr_aload_n (hgX σm) 0 rfl dL_law_1399 rfl (fr_Vk ?_))
  refine fr_kV (fr_iload_n (hgX σm) 3 rfl dL_law_1400 rfl (fr_Vk ?_))
  refine fr_kV (fr_iconst (hgX σm) (v := 2) (by decide) dL_law_1401 rfl (fr_Vk ?_))
  refine fr_kV (fr_iadd (hgX σm) dL_law_1402 rfl (fr_Vk ?_))
  refine fr_ksld (hgX σm) hX hbl hbA (nI_add j 2) (by omega) dL_law_1403 rfl ?_
  refine fr_swap ?_
  refine fr_kci2 (hgM σx') (mX10_write (xs (j + 1)) (xs (j + 2))) (fr_crV (hgM σx') (q := 0) mo_L_159 rfl ⟨_, _, rfl⟩ rfl (by decide) (by decide) (Nat.le_of_ble_eq_true rfl) dL_law_1404 rfl) e2 rfl ?_
  refine fr_swap2 ?_
  exact fr_keq (hgX σm') rfl dL_law_1407 (by decide) (ih σx' σm' e3)
def sm_count (Rel : fr_St → fr_St → Prop) : Prop := ∀ (σx σm : fr_St) (a1 : Int32), Rel σx σm → ∃ (r : Int32) (σx' : fr_St) (σm' : fr_St), zX9_count σx a1 = some (r, σx') ∧ zX10_count σm a1 = some (r, σm') ∧ Rel σx' σm'
set_option maxRecDepth 100000 in
set_option maxHeartbeats 4000000 in
theorem lc_count (hgX : ∀ σm, fr_ok g (fr_wX D cs A adx adm σm) fr_shX code 4 RL 9 332) (hgM : ∀ σx, fr_ok g (fr_wM D cs A adx adm σx) fr_shM code 4 RL 9 332) (hX : va_X b L xs g.2.2.2.2.1 g.2.2.2.2.1.heap) (hbl : b < g.2.2.2.2.1.heap.size) (hbA : ¬ A b) (hj : j + 6 ≤ L ∧ L < 2 ^ 31) (hs : sm_count Rel) (hR : Rel σx σm) (ih : ∀ σx σm, Rel σx σm → fr_K g (fr_wX D cs A adx adm σm) 4 1449 [(0, .ref b), (1, .ref (adx 0)), (2, .ref (adm 0)), (3, .int (nI j))] [] σx) : fr_K g (fr_wX D cs A adx adm σm) 4 1412 [(0, .ref b), (1, .ref (adx 0)), (2, .ref (adm 0)), (3, .int (nI j))] [] σx := by
  obtain ⟨r, σx', σm', e1, e2, e3⟩ := hs σx σm (xs (j + 1)) hR
  refine fr_kV (fr_aload_n (hgX σm) 1 rfl dL_law_1412 rfl (fr_Vk ?_))
  refine fr_kV (fr_aload_n (hgX σm) 0 rfl dL_law_1413 rfl (fr_Vk ?_))
  refine fr_kV (fr_iload_n (hgX σm) 3 rfl dL_law_1414 rfl (fr_Vk ?_))
  refine fr_kV (fr_iconst (hgX σm) (v := 1) (by decide) dL_law_1415 rfl (fr_Vk ?_))
  refine fr_kV (fr_iadd (hgX σm) dL_law_1416 rfl (fr_Vk ?_))
  refine fr_ksld (hgX σm) hX hbl hbA (nI_add j 1) (by omega) dL_law_1417 rfl ?_
  refine fr_kci2 (hgX σm) (mX9_count (xs (j + 1))) (fr_crV (hgX σm) (q := 0) mo_L_160 rfl ⟨_, _, rfl⟩ rfl (by decide) (by decide) (Nat.le_of_ble_eq_true rfl) dL_law_1418 rfl) e1 rfl ?_
  refine fr_kV (fr_aload_n (hgX σm) 2 rfl dL_law_1421 rfl (fr_Vk ?_))
  refine fr_kV (fr_aload_n (hgX σm) 0 rfl dL_law_1422 rfl (fr_Vk ?_))
  refine fr_kV (fr_iload_n (hgX σm) 3 rfl dL_law_1423 rfl (fr_Vk ?_))
  refine fr_kV (fr_iconst (hgX σm) (v := 1) (by decide) dL_law_1424 rfl (fr_Vk ?_))
  refine fr_kV (fr_iadd (hgX σm) dL_law_1425 rfl (fr_Vk ?_))
  refine fr_ksld (hgX σm) hX hbl hbA (nI_add j 1) (by omega) dL_law_1426 rfl ?_
  refine fr_swap ?_
  refine fr_kci2 (hgM σx') (mX10_count (xs (j + 1))) (fr_crV (hgM σx') (q := 0) mo_L_163 rfl ⟨_, _, rfl⟩ rfl (by decide) (by decide) (Nat.le_of_ble_eq_true rfl) dL_law_1427 rfl) e2 rfl ?_
  refine fr_swap2 ?_
  exact fr_keq (hgX σm') rfl dL_law_1430 (by decide) (ih σx' σm' e3)
def sm_digest (Rel : fr_St → fr_St → Prop) : Prop := ∀ (σx σm : fr_St), Rel σx σm → ∃ (r : Int64) (σx' : fr_St) (σm' : fr_St), zX9_digest σx = some (r, σx') ∧ zX10_digest σm = some (r, σm') ∧ Rel σx' σm'
set_option maxRecDepth 100000 in
set_option maxHeartbeats 4000000 in
theorem lc_digest (hgX : ∀ σm, fr_ok g (fr_wX D cs A adx adm σm) fr_shX code 4 RL 9 332) (hgM : ∀ σx, fr_ok g (fr_wM D cs A adx adm σx) fr_shM code 4 RL 9 332) (hX : va_X b L xs g.2.2.2.2.1 g.2.2.2.2.1.heap) (hbl : b < g.2.2.2.2.1.heap.size) (hbA : ¬ A b) (hj : j + 6 ≤ L ∧ L < 2 ^ 31) (hs : sm_digest Rel) (hR : Rel σx σm) (ih : ∀ σx σm, Rel σx σm → fr_K g (fr_wX D cs A adx adm σm) 4 1449 [(0, .ref b), (1, .ref (adx 0)), (2, .ref (adm 0)), (3, .int (nI j))] [] σx) : fr_K g (fr_wX D cs A adx adm σm) 4 1435 [(0, .ref b), (1, .ref (adx 0)), (2, .ref (adm 0)), (3, .int (nI j))] [] σx := by
  obtain ⟨r, σx', σm', e1, e2, e3⟩ := hs σx σm hR
  refine fr_kV (fr_aload_n (hgX σm) 1 rfl dL_law_1435 rfl (fr_Vk ?_))
  refine fr_kcl2 (hgX σm) mX9_digest (fr_crV (hgX σm) (q := 0) mo_L_164 rfl ⟨_, _, rfl⟩ rfl (by decide) (by decide) (Nat.le_of_ble_eq_true rfl) dL_law_1436 rfl) e1 rfl ?_
  refine fr_kV (fr_aload_n (hgX σm) 2 rfl dL_law_1439 rfl (fr_Vk ?_))
  refine fr_swap ?_
  refine fr_kcl2 (hgM σx') mX10_digest (fr_crV (hgM σx') (q := 0) mo_L_168 rfl ⟨_, _, rfl⟩ rfl (by decide) (by decide) (Nat.le_of_ble_eq_true rfl) dL_law_1440 rfl) e2 rfl ?_
  refine fr_swap2 ?_
  refine fr_kV (fr_lcmp (hgX σm') dL_law_1443 rfl (fr_Vk ?_))
  exact fr_kz (hgX σm') (by simp [lg_cmp]) dL_law_1444 (by decide) (ih σx' σm' e3)
end LAWC
