/-! tonight, cover -/
theorem fo_ok : ∀ w, w < 4 → ∀ l, l < 2 → (∃ F, F < 7 ∧ zX9_frostOf 0 (nI w) (nI l) = nI F) ∧ ∃ F, F < 7 ∧ zX9_frostOf 1 (nI w) (nI l) = nI F := by decide +kernel
theorem both_six {σx σm : fr_St} {C s p w l t : Nat} (hC : C ≤ 32) (hs : s ≤ 60) (hp : p ≤ 16) (hw : w < 4) (hl : l < 2) (ht : t < 4) (c1 : σx 1 3 = nI C) (c2 : σm 0 11 = nI C) (s1 : σx 10 t = nI s) (s2 : σm 11 t = nI s) :
    ∃ N, N ≤ 400000 ∧ zX9_sixteenthsTonight σx (nI p) (nI w) (nI l) (nI t) = some (nI N) ∧ zX10_tonightBy σm (nI p) (nI w) (nI l) (nI t) = some (nI N) := by
  obtain ⟨⟨F, hF, e1⟩, G, hG, e2⟩ := fo_ok w hw l hl
  unfold zX9_sixteenthsTonight zX10_tonightBy
  rw [nightOf_eq, nightOf_eq, e1, e2, fr_al_nI ht (by decide), fr_al_nI ht (by decide), Option.bind_some, Option.bind_some, c1, c2, s1, s2, show (16 : Int32) - nI p = nI (16 - p) from pk_sub (a := 16) hp]
  rw [pk_mul, pk_mul, pk_mul, nI_add, pk_mul]
  refine ⟨_, ?_, rfl, rfl⟩
  have a1 : C * s ≤ 32 * 60 := Nat.mul_le_mul hC hs
  have a2 : p * F ≤ 16 * 6 := Nat.mul_le_mul hp (by omega)
  have a3 : (16 - p) * G ≤ 16 * 6 := Nat.mul_le_mul (by omega) (by omega)
  have a4 : C * s * (p * F + (16 - p) * G) ≤ 1920 * 192 := Nat.mul_le_mul (by omega) (by omega)
  omega
theorem x_half {N : Nat} {k5 : Int32} (hN : N ≤ 400000) : ∃ x y d, fr_loop (fun (b2 : Int32 × Int32 × Int32) => zX9_tonight_L68 k5 b2.1 b2.2.1 b2.2.2) fr_fu (nI N, 16, 0) = some (nI x, nI y) ∧ x * d = N ∧ y * d = 16 ∧ (x % 2 = 1 ∨ d = 16) := by
  obtain ⟨z, hz, x, y, d, rfl, h⟩ := lp_fu (body := fun (b2 : Int32 × Int32 × Int32) => zX9_tonight_L68 k5 b2.1 b2.2.1 b2.2.2)
    (fun i b => ∃ x y d, b = (nI x, nI y, nI i) ∧ x * d = N ∧ y * d = 16 ∧ (x % 2 = 1 ∨ d = 2 ^ i))
    (fun z => ∃ x y d, z = (nI x, nI y) ∧ x * d = N ∧ y * d = 16 ∧ (x % 2 = 1 ∨ d = 16)) 4 (by omega)
    (fun i b hi hI => by
      obtain ⟨x, y, d, rfl, h1, h2, h3⟩ := hI
      left
      show ∃ b', zX9_tonight_L68 k5 (nI x) (nI y) (nI i) = _ ∧ _
      have d0 : 0 < d := by
        rcases Nat.eq_zero_or_pos d with e | e
        · rw [e] at h2; omega
        · exact e
      have hx : x ≤ N := by rw [← h1]; exact Nat.le_mul_of_pos_right x d0
      have hy : y ≤ 16 := by rw [← h2]; exact Nat.le_mul_of_pos_right y d0
      unfold zX9_tonight_L68
      rw [if_neg (show ¬ 4 ≤ nI i from nI_ge (b := 4) hi (by decide)), show nI x - nI x / 2 * 2 = nI (x % 2) from pk_rem (d := 2) (by omega) (by decide) (by decide), nI_1]
      by_cases e : x % 2 = 0
      · rw [if_pos (by rw [e]; rfl), show nI x / 2 = nI (x / 2) from pk_div (d := 2) (by omega) (by decide) (by decide), show nI y / 2 = nI (y / 2) from pk_div (d := 2) (by omega) (by decide) (by decide)]
        have hd : d = 2 ^ i := by
          rcases h3 with k | k
          · omega
          · exact k
        refine ⟨_, rfl, x / 2, y / 2, 2 * d, rfl, ?_, ?_, Or.inr ?_⟩
        · rw [← Nat.mul_assoc, show x / 2 * 2 = x by omega]
          exact h1
        · have : y % 2 = 0 := by
            rcases (by omega : i = 0 ∨ i = 1 ∨ i = 2 ∨ i = 3) with k | k | k | k <;> subst k <;> simp at hd <;> subst hd <;> omega
          rw [← Nat.mul_assoc, show y / 2 * 2 = y by omega]
          exact h2
        · rw [hd, Nat.pow_succ, Nat.mul_comm]
      · rw [if_neg (nI_ne0 (by omega) (by omega))]
        exact ⟨_, rfl, x, y, d, rfl, h1, h2, Or.inl (by omega)⟩)
    (fun b hI => by
      obtain ⟨x, y, d, rfl, h⟩ := hI
      refine ⟨_, ?_, x, y, d, rfl, h⟩
      show zX9_tonight_L68 k5 (nI x) (nI y) (nI 4) = _
      unfold zX9_tonight_L68
      rw [if_pos (by decide)])
    0 (nI N, 16, 0) (by omega) ⟨N, 16, 1, rfl, by omega, by omega, Or.inr rfl⟩
  exact ⟨x, y, d, hz, h⟩
theorem lgc_0 {y : Nat} (h : y < 2 ^ 31) : lg_cmp (lN y) 0 = 0 ↔ y = 0 := by
  have e : (0 : Int64) = lN 0 := rfl
  unfold lg_cmp
  by_cases h1 : lN y > 0
  · rw [if_pos h1]
    rw [e] at h1
    have := (lN_lt (by omega) h).mp h1
    constructor
    · intro h; exact absurd h (by decide)
    · intro h; omega
  · rw [if_neg h1]
    have : y = 0 := by
      rcases Nat.eq_zero_or_pos y with k | k
      · exact k
      · exact absurd (show lN y > 0 by rw [e]; exact (lN_lt (by omega) h).mpr k) h1
    subst this
    rw [if_pos (show lN 0 = 0 from rfl)]
    exact ⟨fun _ => rfl, fun _ => rfl⟩
theorem gcd_st {x y : Nat} : Nat.gcd y (x % y) = Nat.gcd x y := by
  rw [Nat.gcd_comm x y, Nat.gcd_rec y x, Nat.gcd_comm]
theorem m_gcd {N : Nat} {k0 k2 : Int64} {k4 : Int32} (hN : N ≤ 400000) : fr_loop (fun (b1 : Int64 × Int64) => zX10_part_L6 k0 k2 k4 b1.1 b1.2) fr_fu (lN N, lN 16) = some (lN (Nat.gcd N 16)) := by
  obtain ⟨z, hz, rfl⟩ := lp_fu (body := fun (b1 : Int64 × Int64) => zX10_part_L6 k0 k2 k4 b1.1 b1.2)
    (fun i b => ∃ x y, b = (lN x, lN y) ∧ x ≤ 400000 ∧ y ≤ 16 - i ∧ Nat.gcd x y = Nat.gcd N 16)
    (fun z => z = lN (Nat.gcd N 16)) 16 (by omega)
    (fun i b hi hI => by
      obtain ⟨x, y, rfl, hx, hy, hg⟩ := hI
      show (∃ b', zX10_part_L6 k0 k2 k4 (lN x) (lN y) = _ ∧ _) ∨ ∃ c, zX10_part_L6 k0 k2 k4 (lN x) (lN y) = _ ∧ _
      unfold zX10_part_L6
      by_cases e : y = 0
      · right
        rw [if_pos ((lgc_0 (by omega)).mpr e)]
        refine ⟨_, rfl, ?_⟩
        rw [← hg, e, Nat.gcd_zero_right]
      · left
        have y0 : 0 < y := by omega
        have hlt := Nat.mod_lt x y0
        rw [if_neg (fun k => e ((lgc_0 (by omega)).mp k))]
        unfold fr_lrm
        rw [if_neg (show ¬ lN y = 0 from fun k => e ((pk_lEQ (a := y) (b := 0) (by omega) (by omega)).mp k)), pk_lRem (by omega) y0 (by omega), Option.bind_some]
        exact ⟨_, rfl, y, x % y, rfl, by omega, by omega, gcd_st.trans hg⟩)
    (fun b hI => by
      obtain ⟨x, y, rfl, hx, hy, hg⟩ := hI
      have e : y = 0 := by omega
      refine ⟨lN x, ?_, ?_⟩
      · show zX10_part_L6 k0 k2 k4 (lN x) (lN y) = _
        unfold zX10_part_L6
        rw [if_pos ((lgc_0 (by omega)).mpr e)]
      · rw [← hg, e, Nat.gcd_zero_right])
    0 (lN N, lN 16) (by omega) ⟨N, 16, rfl, hN, by omega, rfl⟩
  exact hz
theorem cop_odd {x y d : Nat} (hy : y * d = 16) (h : x % 2 = 1 ∨ d = 16) : Nat.gcd x y = 1 := by
  rcases h with h | h
  · have h2 : Nat.Coprime x 2 := by
      show Nat.gcd x 2 = 1
      rw [Nat.gcd_comm, Nat.gcd_rec, h]
      decide
    have h3 : Nat.Coprime x (2 ^ 4) := Nat.Coprime.pow_right 4 h2
    exact Nat.Coprime.coprime_dvd_right ⟨d, by rw [hy]⟩ h3
  · subst h
    have : y = 1 := by omega
    rw [this, Nat.gcd_one_right]
theorem both_part {N : Nat} {a5 : Int32} (hN : N ≤ 400000) : ∃ v : Int64, (fr_loop (fun (b2 : Int32 × Int32 × Int32) => zX9_tonight_L68 a5 b2.1 b2.2.1 b2.2.2) fr_fu (nI N, 16, 0)).bind (fun (c3 : Int32 × Int32) => if a5 = 0 then some c3.1.toInt64 else some c3.2.toInt64) = some v ∧ zX10_part (nI N).toInt64 16 a5 = some v := by
  obtain ⟨x, y, d, e, h1, h2, h3⟩ := x_half (k5 := a5) hN
  have d0 : 0 < d := by
    rcases Nat.eq_zero_or_pos d with k | k
    · rw [k] at h2; omega
    · exact k
  have hx : x ≤ N := by rw [← h1]; exact Nat.le_mul_of_pos_right x d0
  have hy : y ≤ 16 := by rw [← h2]; exact Nat.le_mul_of_pos_right y d0
  have hd : d ≤ 16 := by
    rcases Nat.eq_zero_or_pos y with k | k
    · rw [k] at h2; omega
    · rw [← h2]; exact Nat.le_mul_of_pos_left d k
  have hg : Nat.gcd N 16 = d := by
    have := Nat.gcd_mul_right x d y
    rw [h1, h2, cop_odd h2 h3, Nat.one_mul] at this
    exact this
  have e1 : N / d = x := by rw [← h1]; exact Nat.mul_div_cancel x d0
  have e2 : 16 / d = y := by rw [← h2]; exact Nat.mul_div_cancel y d0
  have hd0 : ¬ lN d = 0 := fun k => by
    have := (pk_lEQ (a := d) (b := 0) (by omega) (by omega)).mp k
    omega
  unfold zX10_part
  rw [e, Option.bind_some, nI_l (show N < 2 ^ 31 by omega), show (16 : Int64) = lN 16 from rfl, m_gcd hN, Option.bind_some, hg]
  dsimp only
  by_cases z : a5 = 0
  · rw [if_pos z, if_pos z]
    unfold fr_ldv
    rw [if_neg hd0, pk_lDiv (by omega) d0 (by omega), Option.bind_some, e1]
    exact ⟨_, rfl, by first | rfl | rw [nI_l (by omega)]⟩
  · rw [if_neg z, if_neg z]
    unfold fr_ldv
    rw [if_neg hd0, pk_lDiv (by omega) d0 (by omega), Option.bind_some, e2]
    exact ⟨_, rfl, by first | rfl | rw [nI_l (by omega)]⟩
theorem ouS_le (g : Nat → Option Nat) : su (fun c => ouS (g c)) 32 ≤ 32 := by
  have := su_le (f := fun c => ouS (g c)) (k := 1) (n := 32) (fun c _ => by
    show ouS (g c) ≤ 1
    cases g c
    · exact Nat.zero_le _
    · exact Nat.le_refl _)
  omega
/-- tonight: both, where the reference has read the pane -/
theorem both_ton {ν : Nat → Nat → Nat} {σx σm : fr_St} (hn : nb ν) (hx : xb ν σx) (hm : mb ν σm) (hd : xd ν σx) (hp : pcm (pn (ν 5) (ν 6 0)).2.2.2 σm) {p w l t : Nat} (hp16 : p ≤ 16) (hw : w < 4) (hl : l < 2) (ht : t < 4) :
    ∃ N, N ≤ 400000 ∧ zX9_sixteenthsTonight σx (nI p) (nI w) (nI l) (nI t) = some (nI N) ∧ zX10_tonightBy σm (nI p) (nI w) (nI l) (nI t) = some (nI N) :=
  both_six (ouS_le _) (hn.2.2.1 t ht).2 hp16 hw hl ht hd.1.2.2.1 hp.2 (hx.2.2.2.1 t ht) (hm.2.2.1 t ht)
theorem both_tonight {ν : Nat → Nat → Nat} {σx σm : fr_St} (hn : nb ν) (hx : xb ν σx) (hm : mb ν σm) (hd : xd ν σx) (hp : pcm (pn (ν 5) (ν 6 0)).2.2.2 σm) {p w l t : Nat} (hp16 : p ≤ 16) (hw : w < 4) (hl : l < 2) (ht : t < 4) {a5 : Int32} (h5 : ¬ zX9_within a5 0 1 = 0) :
    ∃ (N : Nat) (v : Int64), zX9_tonight σx (nI p) (nI w) (nI l) (nI t) a5 = some v ∧ zX10_tonightBy σm (nI p) (nI w) (nI l) (nI t) = some (nI N) ∧ zX10_part (nI N).toInt64 16 a5 = some v := by
  obtain ⟨N, hN, e1, e2⟩ := both_ton hn hx hm hd hp hp16 hw hl ht
  obtain ⟨v, e3, e4⟩ := both_part (a5 := a5) hN
  refine ⟨N, v, ?_, e2, e4⟩
  unfold zX9_tonight zX9_isPair zX9_isTool
  rw [show zX9_within (nI p) 0 16 = 1 from wi_nI (m := 16) hp16 (by decide), if10, show zX9_within (nI w) 0 3 = 1 from wi_nI (m := 3) (by omega) (by decide), if10, show zX9_within (nI l) 0 1 = 1 from wi_nI (m := 1) (by omega) (by decide), if10, show zX9_within (nI t) 0 3 = 1 from wi_nI (m := 3) (by omega) (by decide), if10, if_neg h5, e1, Option.bind_some]
  exact e3
theorem ok_tonight : sm_tonight Rl := by
  rintro σx σm a1 a2 a3 a4 a5 ⟨ν, hn, hx, hm, hs, hd, ho, hf⟩
  have hR0 : Rl σx σm := ⟨ν, hn, hx, hm, hs, hd, ho, hf⟩
  obtain ⟨σ1, e1, p1, p12, p13, f1⟩ := mp_pane (T := ν 5) (σ := σm) hn.1.1 (fun j hj => hn.2.1 j (by omega)) hm.1.1 (fun j hj => hm.2.1 j (by omega))
  have hsc := mfr_sc f1
  have no2 : zX10_no (-2) = -9223372036854775806 := by decide
  unfold zX10_tonight zX10_isNight
  rw [e1, Option.bind_some, in_0_16, in_0_3, in_isTwo, in_isTool, in_isTwo, no2]
  dsimp only
  rcases wi_c a1 (M := 16) (m := 16) rfl (by decide) with h1 | ⟨p, hp, rfl, h1⟩
  · exact ⟨-9223372036854775806, σ1, by unfold zX9_tonight; rw [if_pos h1], by rw [if_pos h1, if00], Rl_sc hR0 hsc⟩
  rw [h1, if10]
  rcases wi_c a2 (M := 3) (m := 3) rfl (by decide) with h2 | ⟨w, hw, rfl, h2⟩
  · exact ⟨-9223372036854775806, σ1, by unfold zX9_tonight; rw [h1, if10, if_pos h2], by rw [if_pos h2, if00, if00], Rl_sc hR0 hsc⟩
  rw [h2, if10]
  rcases wi_c a3 (M := 1) (m := 1) rfl (by decide) with h3 | ⟨l, hl, rfl, h3⟩
  · exact ⟨-9223372036854775806, σ1, by unfold zX9_tonight zX9_isPair; rw [h1, if10, h2, if10, if_pos h3], by rw [if_pos h3, if00, if00], Rl_sc hR0 hsc⟩
  rw [h3, if10, if10]
  rcases wi_c a4 (M := 3) (m := 3) rfl (by decide) with h4 | ⟨t, ht, rfl, h4⟩
  · exact ⟨-9223372036854775806, σ1, by unfold zX9_tonight zX9_isPair zX9_isTool; rw [h1, if10, h2, if10, h3, if10, if_pos h4], by rw [if_pos h4, if00], Rl_sc hR0 hsc⟩
  rw [h4, if10, Option.bind_some]
  by_cases h5 : zX9_within a5 0 1 = 0
  · exact ⟨-9223372036854775806, σ1, by unfold zX9_tonight zX9_isPair zX9_isTool; rw [h1, if10, h2, if10, h3, if10, h4, if10, if_pos h5], by rw [if_pos h5, if00], Rl_sc hR0 hsc⟩
  rw [if_neg h5, if10]
  obtain ⟨N, v, x1, x2, x3⟩ := both_tonight hn hx (mb_sc hm hsc) hd p1 hp (show w < 4 by omega) (show l < 2 by omega) (show t < 4 by omega) h5
  exact ⟨v, σ1, x1, by rw [x2, Option.bind_some, x3, Option.bind_some], Rl_sc hR0 hsc⟩
/-- cover: both, from any state of the reference -/
theorem both_cover {ν : Nat → Nat → Nat} {σx σm : fr_St} (hn : nb ν) (hx : xb ν σx) (hm : mb ν σm) (hd : xd ν σx) (a1 a2 a3 a4 : Int32) :
    ∃ r σ1, zX9_cover σx a1 a2 a3 a4 = some r ∧ zX10_cover σm a1 a2 a3 a4 = some (r, σ1) ∧ pcm (pn (ν 5) (ν 6 0)).2.2.2 σ1 ∧ σ1 0 12 = nI (pn (ν 5) (ν 6 0)).2.2.1 ∧ σ1 0 13 = nI (pn (ν 5) (ν 6 0)).2.1 ∧ mfr σm σ1 := by
  obtain ⟨σ1, e1, p1, p12, p13, f1⟩ := mp_pane (T := ν 5) (σ := σm) hn.1.1 (fun j hj => hn.2.1 j (by omega)) hm.1.1 (fun j hj => hm.2.1 j (by omega))
  unfold zX10_cover zX9_cover
  rw [e1, Option.bind_some, in_0_16, in_0_9999, in_0_16, in_0_9999]
  dsimp only
  rcases wi_c a1 (M := 16) (m := 16) rfl (by decide) with h1 | ⟨p, hp, rfl, h1⟩
  · exact ⟨-2, σ1, by rw [if_pos h1], by rw [if_pos h1, if00], p1, p12, p13, f1⟩
  rw [h1, if10, if10]
  by_cases h2 : zX9_within a2 0 9999 = 0
  · exact ⟨-2, σ1, by rw [if_pos h2], by rw [if_pos h2, if00], p1, p12, p13, f1⟩
  rw [if_neg h2, if_neg h2]
  by_cases h3 : zX9_within a3 0 16 = 0
  · exact ⟨-2, σ1, by rw [if_pos h3], by rw [if_pos h3, if00], p1, p12, p13, f1⟩
  rw [if_neg h3, if_neg h3, Option.bind_some]
  by_cases h4 : zX9_within a4 0 9999 = 0
  · exact ⟨-2, σ1, by rw [if_pos h4], by rw [if_pos h4, if00], p1, p12, p13, f1⟩
  rw [if_neg h4, if_neg h4, if10]
  obtain ⟨N, hN, x1, x2⟩ := both_ton hn hx (mb_sc hm (mfr_sc f1)) hd p1 hp (w := 0) (l := 0) (t := 0) (by omega) (by omega) (by omega)
  rw [show zX9_sixteenthsTonight σx (nI p) 0 0 0 = some (nI N) from x1, show zX10_tonightBy σ1 (nI p) 0 0 0 = some (nI N) from x2, Option.bind_some, Option.bind_some, Int32.mul_comm a4 a3]
  by_cases h : nI N ≤ 16 * a2 + a3 * a4
  · exact ⟨0, σ1, by rw [if_pos h], by rw [if_pos h], p1, p12, p13, f1⟩
  · exact ⟨1, σ1, by rw [if_neg h], by rw [if_neg h], p1, p12, p13, f1⟩
theorem ok_cover : sm_cover Rl := by
  rintro σx σm a1 a2 a3 a4 ⟨ν, hn, hx, hm, hs, hd, ho, hf⟩
  obtain ⟨r, σ1, x1, x2, p1, p12, p13, f1⟩ := both_cover hn hx hm hd a1 a2 a3 a4
  exact ⟨r, σ1, x1, x2, Rl_sc ⟨ν, hn, hx, hm, hs, hd, ho, hf⟩ (mfr_sc f1)⟩
