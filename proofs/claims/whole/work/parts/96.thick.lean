/-! thick -/
theorem mo_st {g : Nat → Option Nat} {hol sk : Nat → Nat} {i c : Nat} : (mo_s g hol sk (i + 1)).1 c = if 0 < mo_t g hol sk i ∧ sk (2 * i + 1) = c then 0 else (mo_s g hol sk i).1 c := by
  show (if 0 < (mo_s g hol sk i).1 (sk (2 * i + 1)) ∧ (mo_s g hol sk i).1 (sk (2 * i + 1)) ≤ (mo_s g hol sk i).2 (sk (2 * i)) then (upN (mo_s g hol sk i).1 (sk (2 * i + 1)) 0, upN (mo_s g hol sk i).2 (sk (2 * i)) ((mo_s g hol sk i).2 (sk (2 * i)) - (mo_s g hol sk i).1 (sk (2 * i + 1)))) else mo_s g hol sk i).1 c = _
  have emt : mo_t g hol sk i = if 0 < (mo_s g hol sk i).1 (sk (2 * i + 1)) ∧ (mo_s g hol sk i).1 (sk (2 * i + 1)) ≤ (mo_s g hol sk i).2 (sk (2 * i)) then (mo_s g hol sk i).1 (sk (2 * i + 1)) else 0 := rfl
  by_cases hd : 0 < (mo_s g hol sk i).1 (sk (2 * i + 1)) ∧ (mo_s g hol sk i).1 (sk (2 * i + 1)) ≤ (mo_s g hol sk i).2 (sk (2 * i))
  · rw [if_pos hd] at emt ⊢
    show (if c = sk (2 * i + 1) then 0 else (mo_s g hol sk i).1 c) = _
    by_cases e : c = sk (2 * i + 1)
    · rw [if_pos e, if_pos ⟨by omega, e.symm⟩]
    · rw [if_neg e, if_neg (fun h => e h.2.symm)]
  · rw [if_neg hd] at emt ⊢
    rw [if_neg (by omega)]
theorem mo_z {g : Nat → Option Nat} {hol sk : Nat → Nat} {i c : Nat} (h : (mo_s g hol sk i).1 c = 0) : ∀ m, i ≤ m → (mo_s g hol sk m).1 c = 0
  | 0, hm => by have : i = 0 := by omega
                subst this; exact h
  | m + 1, hm => by
    by_cases e : i = m + 1
    · rw [← e]; exact h
    · rw [mo_st, mo_z h m (by omega)]
      split <;> rfl
theorem x_clr {g : Nat → Option Nat} {hol sk : Nat → Nat} {k c : Nat} {σ : fr_St} (hg : ∀ c, (g c).getD 0 ≤ 9) (hk : k ≤ 40) (hc : c < 32) (hsk : ∀ i, i < 40 → sk (2 * i) < 4 ∧ sk (2 * i + 1) < 32) (h18 : ∀ i, i < k → σ 18 i = nI (mo_t g hol sk i)) (h16 : ∀ i, i < 40 → σ 16 i = nI (sk (2 * i + 1))) :
    ∃ r, zX1_clearedBehind σ (nI k) (nI c) = some r ∧ ((r = 1 ∧ (mo_s g hol sk k).1 c = 0) ∨ (r = 0 ∧ (mo_s g hol sk k).1 c = (g c).getD 0)) := by
  unfold zX1_clearedBehind
  obtain ⟨z, hz, hQ⟩ := lp_fu (body := fun (b1 : Int32) => zX1_clearedBehind_L3 σ (nI k) (nI c) b1)
    (fun i b => b = nI i ∧ (mo_s g hol sk i).1 c = (g c).getD 0)
    (fun z => (z = .inl 1 ∧ (mo_s g hol sk k).1 c = 0) ∨ (z = .inr () ∧ (mo_s g hol sk k).1 c = (g c).getD 0)) k (by omega)
    (fun i b hi hI => by
      obtain ⟨rfl, h⟩ := hI
      unfold zX1_clearedBehind_L3
      have h9 := mo_t9 (hol := hol) (sk := sk) (i := i) hg
      rw [if_neg (nI_ge hi (by omega)), if_neg (show ¬ 40 ≤ nI i from nI_ge (b := 40) (by omega) (by decide)), fr_al_nI (show i < 40 by omega) (by decide), Option.bind_some, h18 i hi, fr_al_nI (show i < 40 by omega) (by decide), Option.bind_some, h16 i (by omega), nI_1]
      have st := mo_st (g := g) (hol := hol) (sk := sk) (i := i) (c := c)
      by_cases h0 : 0 < mo_t g hol sk i
      · rw [if_neg (nI_nle h0 (by omega))]
        by_cases e : sk (2 * i + 1) = c
        · rw [if_pos (by rw [e])]
          rw [if_pos ⟨h0, e⟩] at st
          exact Or.inr ⟨_, rfl, Or.inl ⟨rfl, mo_z st k (by omega)⟩⟩
        · rw [if_neg (by rw [nI_eq (by have := (hsk i (by omega)).2; omega) (by omega)]; exact e)]
          rw [if_neg (fun h => e h.2)] at st
          exact Or.inl ⟨_, rfl, rfl, st.trans h⟩
      · rw [if_pos (by rw [nI_le0 (by omega)]; omega)]
        rw [if_neg (fun h => h0 h.1)] at st
        exact Or.inl ⟨_, rfl, rfl, st.trans h⟩)
    (fun b hI => by
      obtain ⟨rfl, h⟩ := hI
      unfold zX1_clearedBehind_L3
      rw [if_pos (nI_le (Nat.le_refl _) (by omega))]
      exact ⟨_, rfl, Or.inr ⟨rfl, h⟩⟩)
    0 0 (by omega) ⟨rfl, rfl⟩
  rw [hz, Option.bind_some]
  rcases hQ with ⟨rfl, h⟩ | ⟨rfl, h⟩
  · exact ⟨1, rfl, Or.inl ⟨rfl, h⟩⟩
  · exact ⟨0, rfl, Or.inr ⟨rfl, h⟩⟩
theorem ok_thick : sm_thick Rl := by
  rintro σx σm a1 a2 ⟨ν, hn, hx, hm, hs, hd, ho, hf⟩
  have hR0 : Rl σx σm := ⟨ν, hn, hx, hm, hs, hd, ho, hf⟩
  have h40 := hn.2.2.2.2.2.1
  unfold zX9_thick zX10_thick zX9_isCell
  rw [hm.2.2.2.2.2.1, hx.2.2.2.2.2.2.1, in_0h, in_isCell]
  rcases wi_c a1 (M := nI (ν 0 19)) (m := ν 0 19) rfl (by omega) with h1 | ⟨k, hk, rfl, h1⟩
  · exact ⟨-2, σx, σm, by rw [if_pos h1], by rw [if_pos h1], hR0⟩
  rcases wi_c a2 (M := 31) (m := 31) rfl (by decide) with h2 | ⟨c, hc, rfl, h2⟩
  · exact ⟨-2, σx, σm, by rw [h1, if10, if_pos h2], by rw [h1, if10, if_pos h2], hR0⟩
  obtain ⟨σ2, e2, ht, hsc⟩ := ms_scrapes (k := k) hn hm (by omega)
  have hc32 : c < 32 := by omega
  rw [h1, h2, if10, if10, if10, if10, e2, Option.bind_some, fr_al_nI hc32 (by decide), fr_al_nI hc32 (by decide), Option.bind_some, Option.bind_some, fr_al_nI hc32 (by decide), Option.bind_some, (ht.1.1 c hc32).1, hd.1.2.1 c hc32, ht.2.2.2.2.2.1 c hc32]
  cases hg : (pn (ν 5) (ν 6 0)).2.2.2 c with
  | none => exact ⟨-2, σx, σ2, by rw [if_pos (show oI none = -1 from rfl)], by rw [if_pos (show nI (ouS none) = 0 from rfl)], Rl_sc hR0 hsc⟩
  | some v =>
    have hv := pn_c9 hg
    obtain ⟨σ', e, hR, hq⟩ := settled hn hx hm hs hd ho hf
    obtain ⟨g, th, lf, h, rfl, rfl, rfl, rfl, m18, m19, m20, m21, m6, m22, m7, m23⟩ := hR.2.2.2.2.2.1
    obtain ⟨r, er, hr⟩ := x_clr (g := (pn (ν 5) (ν 6 0)).2.2.2) (hol := ν 12) (sk := ν 14) (k := k) (c := c) (σ := σ') (fun c => pn_g9) (by omega) hc32 hn.2.2.2.2.2.2.1 (fun i hi => m18 i (by omega)) (fun i hi => (hR.2.1.2.2.2.2.2.2.2.1 i hi).2)
    refine ⟨nI ((mo_s (pn (ν 5) (ν 6 0)).2.2.2 (ν 12) (ν 14) k).1 c), σ', σ2, ?_, ?_, Rs_Rl (Rs_sc hR hsc)⟩
    · rw [if_neg (show ¬ oI (some v) = -1 from nI_m1 (by omega)), e, Option.bind_some]
      dsimp only
      rw [er, Option.bind_some, fr_al_nI hc32 (by decide), Option.bind_some, hR.2.2.2.2.1.1.2.1 c hc32]
      rcases hr with ⟨rfl, h⟩ | ⟨rfl, h⟩
      · rw [if10, h]; rfl
      · rw [if00, h, hg]; rfl
    · rw [if_neg (show ¬ nI (ouS (some v)) = 0 from (by decide : ¬ nI 1 = 0))]
