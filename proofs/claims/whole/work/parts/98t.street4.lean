/-! car, gone, lent -/
theorem Rl_st {ν ν' : Nat → Nat → Nat} {σx σm σx' σm' : fr_St} (hn : nb ν) (hx : xb ν σx) (hm : mb ν σm) (hs : shr σx σm) (hd : xd ν σx) (ho : mox ν σx) (hf : σx 0 9 = σm 0 4)
    (hν : ∀ q ∈ [5, 6, 11, 12, 13, 14], ν' q = ν q) (h19 : ν' 0 19 = ν 0 19) (ex : ∀ q, q < 24 ∨ 28 < q → σx' q = σx q) (em : ∀ q ∈ [1, 2, 3, 5, 6, 11, 12, 13, 14], σm' q = σm q) (em19 : σm' 0 19 = σm 0 19) (em4 : σm' 0 4 = σm 0 4)
    (n7 : ν' 0 27 ≤ 7) (nC : ∀ j, j < 14 → ν' 18 j ≤ 9999) (x24 : car_ok (ν' 18) (ν' 0 27) σx') (m27 : σm' 0 27 = nI (ν' 0 27)) (m18 : ∀ j, j < 14 → σm' 18 j = nI (ν' 18 j)) (hst : stx (ν' 18) (ν' 0 27) σx') : Rl σx' σm' := by
  have e5 := hν 5 (by decide)
  have e6 := hν 6 (by decide)
  have e11 := hν 11 (by decide)
  have e12 := hν 12 (by decide)
  have e13 := hν 13 (by decide)
  have e14 := hν 14 (by decide)
  refine ⟨ν', ?_, ?_, ?_, shr_m (shr_x hs (fun q a b => ex q (by omega))) (fun q hq => em q (by simp at hq ⊢; omega)), ?_, ?_, ?_⟩
  · unfold nb
    rw [e5, e6, e11, e12, e13, e14, h19]
    obtain ⟨n1, n2, n3, n4, n5, n6, n7', n8, n9⟩ := hn
    exact ⟨n1, n2, n3, n4, n5, n6, n7', n7, nC⟩
  · unfold xb
    rw [e5, e6, e11, e12, e13, e14, h19, ex 2 (by omega), ex 3 (by omega), ex 4 (by omega), ex 5 (by omega), ex 10 (by omega), ex 11 (by omega), ex 13 (by omega), ex 14 (by omega), ex 15 (by omega), ex 16 (by omega)]
    obtain ⟨x1, x2, x3, x4, x5, x6, x7, x8, x9, x10⟩ := hx
    exact ⟨x1, x2, x3, x4, x5, x6, x7, x8, x24.1, x24.2⟩
  · unfold mb
    rw [e5, e6, e11, e12, e13, e14, h19, em 6 (by decide), em 5 (by decide), em 11 (by decide), em 12 (by decide), em 13 (by decide), em 14 (by decide), em19]
    obtain ⟨x1, x2, x3, x4, x5, x6, x7, x8, x9⟩ := hm
    exact ⟨x1, x2, x3, x4, x5, x6, x7, m27, m18⟩
  · unfold xd
    refine ⟨?_, ?_, hst⟩
    · unfold pnx
      rw [e5, e6, ex 1 (by omega), ex 6 (by omega)]
      exact hd.1
    · unfold rdx
      rw [e5, e6, ex 7 (by omega), ex 8 (by omega)]
      exact hd.2.1
  · unfold mox mor
    rw [e5, e6, e12, e13, e14, h19, ex 0 (by omega), ex 17 (by omega), ex 18 (by omega), ex 19 (by omega), ex 20 (by omega), ex 21 (by omega), ex 22 (by omega), ex 23 (by omega)]
    exact ho
  · rw [ex 0 (by omega), em4]
    exact hf
theorem ok_car : sm_car Rl := by
  rintro σx σm a1 a2 ⟨ν, hn, hx, hm, hs, hd, ho, hf⟩
  have hR0 : Rl σx σm := ⟨ν, hn, hx, hm, hs, hd, ho, hf⟩
  unfold zX9_car zX10_car
  rw [in_1_9999, in_0_9999]
  rcases wi_c1 a1 (M := 9999) (m := 9999) rfl (by decide) with h1 | ⟨s, s0, hs9, rfl, h1⟩
  · exact ⟨-2, σx, σm, by rw [if_pos h1], by rw [if_pos h1], hR0⟩
  rw [h1, if10, if10]
  rcases wi_c a2 (M := 9999) (m := 9999) rfl (by decide) with h2 | ⟨l, hl9, rfl, h2⟩
  · exact ⟨-2, σx, σm, by rw [if_pos h2], by rw [if_pos h2], hR0⟩
  rw [h2, if10, if10]
  have e1 : σx 24 4 = nI (ν 0 27) := hx.2.2.2.2.2.2.2.2.1
  have e2 : σm 0 27 = nI (ν 0 27) := hm.2.2.2.2.2.2.2.1
  have h7 : ν 0 27 ≤ 7 := hn.2.2.2.2.2.2.2.1
  have x25 := hx.2.2.2.2.2.2.2.2.2
  have m18 := hm.2.2.2.2.2.2.2.2
  have nC := hn.2.2.2.2.2.2.2.2
  rw [e1, e2]
  generalize hN : ν 0 27 = n at *
  by_cases h : n = 7
  · refine ⟨-4, σx, σm, ?_, ?_, hR0⟩
    · rw [if_neg (show ¬ nI n < 7 from nI_nlt (b := 7) (by omega) (by omega))]
    · rw [if_pos (show nI n = 7 by rw [h]; rfl)]
  · have hn7 : n < 7 := by omega
    have em1 : 2 * nI n = nI (2 * n) := by rw [show (2 : Int32) = nI 2 from rfl, pk_mul]
    have hCa : ∀ j, j < 14 → (nup (nup (nup ν 18 (2 * n) s) 18 (2 * n + 1) l) 0 27 (n + 1)) 18 j ≤ 9999 := fun j hj => by
      show (if j = 2 * n + 1 then l else if j = 2 * n then s else ν 18 j) ≤ 9999
      have := nC j hj
      split
      · omega
      · split <;> omega
    have hca : car_ok ((nup (nup (nup ν 18 (2 * n) s) 18 (2 * n + 1) l) 0 27 (n + 1)) 18) (n + 1) (fr_put (fr_put (fr_put σx 25 n (nI s)) 26 n (nI l)) 24 4 (nI (n + 1))) := by
      refine ⟨rfl, fun c hc => ?_⟩
      have := x25 c hc
      show (if c = n then nI s else σx 25 c) = nI (if 2 * c = 2 * n + 1 then l else if 2 * c = 2 * n then s else ν 18 (2 * c)) ∧ (if c = n then nI l else σx 26 c) = nI (if 2 * c + 1 = 2 * n + 1 then l else if 2 * c + 1 = 2 * n then s else ν 18 (2 * c + 1))
      rw [if_neg (by omega : ¬ 2 * c = 2 * n + 1), if_neg (by omega : ¬ 2 * c + 1 = 2 * n)]
      by_cases e : c = n
      · rw [if_pos e, if_pos e, if_pos (by omega), if_pos (by omega)]
        exact ⟨rfl, rfl⟩
      · rw [if_neg e, if_neg e, if_neg (by omega), if_neg (by omega)]
        exact this
    obtain ⟨σ', ep, hst, hq⟩ := x_plan (C := (nup (nup (nup ν 18 (2 * n) s) 18 (2 * n + 1) l) 0 27 (n + 1)) 18) (n := n + 1) (by omega) hCa hca
    have hca' : car_ok ((nup (nup (nup ν 18 (2 * n) s) 18 (2 * n + 1) l) 0 27 (n + 1)) 18) (n + 1) σ' := by
      unfold car_ok
      rw [hq 24 (by decide) (by decide), hq 25 (by decide) (by decide), hq 26 (by decide) (by decide)]
      exact hca
    refine ⟨nI (n + 1), σ', fr_put (fr_put (fr_put σm 18 (2 * n) (nI s)) 18 (2 * n + 1) (nI l)) 0 27 (nI (n + 1)), ?_, ?_, ?_⟩
    · unfold zX6_append
      rw [if_pos (show nI n < 7 from nI_lt (b := 7) hn7 (by decide)), e1, if_neg (show ¬ 7 ≤ nI n from nI_ge (b := 7) hn7 (by decide)), fr_as_nI hn7 (by decide), Option.bind_some]
      rw [show (fr_put σx 25 n (nI s)) 24 4 = nI n from e1, fr_as_nI hn7 (by decide), Option.bind_some]
      rw [show (fr_put (fr_put σx 25 n (nI s)) 26 n (nI l)) 24 4 = nI n from e1, nI_1, ep, Option.bind_some, Option.bind_some, hca'.1]
    · rw [if_neg (show ¬ nI n = 7 by rw [show (7 : Int32) = nI 7 from rfl, nI_eq (by omega) (by decide)]; exact h), em1, fr_as_nI (by omega) (by decide), Option.bind_some]
      rw [show (fr_put σm 18 (2 * n) (nI s)) 0 27 = nI n from e2, em1, nI_1, fr_as_nI (by omega) (by decide), Option.bind_some]
      rw [show (fr_put (fr_put σm 18 (2 * n) (nI s)) 18 (2 * n + 1) (nI l)) 0 27 = nI n from e2, nI_1]
      rfl
    · refine Rl_st (ν' := nup (nup (nup ν 18 (2 * n) s) 18 (2 * n + 1) l) 0 27 (n + 1)) hn hx hm hs hd ho hf (fun q hq => ?_) rfl (fun q hq' => ?_) (fun q hq' => ?_) rfl rfl (by show n + 1 ≤ 7; omega) hCa hca' rfl (fun j hj => ?_) hst
      · unfold nup
        rw [if_neg (by rintro rfl; revert hq; decide), if_neg (by rintro rfl; revert hq; decide), if_neg (by rintro rfl; revert hq; decide)]
      · rw [hq q (by omega) (by omega)]
        simp only [fr_put_at]
        rw [if_neg (by omega), if_neg (by omega), if_neg (by omega)]
      · simp only [fr_put_at]
        rw [if_neg (by rintro rfl; revert hq'; decide), if_neg (by rintro rfl; revert hq'; decide), if_neg (by rintro rfl; revert hq'; decide)]
      · show (if j = 2 * n + 1 then nI l else if j = 2 * n then nI s else σm 18 j) = nI (if j = 2 * n + 1 then l else if j = 2 * n then s else ν 18 j)
        by_cases a : j = 2 * n + 1
        · rw [if_pos a, if_pos a]
        · rw [if_neg a, if_neg a]
          by_cases b : j = 2 * n
          · rw [if_pos b, if_pos b]
          · rw [if_neg b, if_neg b]; exact m18 j hj
theorem ok_gone : sm_gone Rl := by
  rintro σx σm ⟨ν, hn, hx, hm, hs, hd, ho, hf⟩
  have hR0 : Rl σx σm := ⟨ν, hn, hx, hm, hs, hd, ho, hf⟩
  unfold zX9_gone zX10_gone
  have e1 : σx 24 4 = nI (ν 0 27) := hx.2.2.2.2.2.2.2.2.1
  have e2 : σm 0 27 = nI (ν 0 27) := hm.2.2.2.2.2.2.2.1
  have h7 : ν 0 27 ≤ 7 := hn.2.2.2.2.2.2.2.1
  have x25 := hx.2.2.2.2.2.2.2.2.2
  have m18 := hm.2.2.2.2.2.2.2.2
  have nC := hn.2.2.2.2.2.2.2.2
  rw [e1, e2]
  by_cases h : ν 0 27 = 0
  · refine ⟨-3, σx, σm, ?_, ?_, hR0⟩
    · rw [if_neg (by rw [nI_lt0 (by omega)]; omega)]
    · rw [if_pos (by rw [h]; rfl)]
  · obtain ⟨n, hN⟩ : ∃ n, ν 0 27 = n + 1 := ⟨ν 0 27 - 1, by omega⟩
    have e3 : nI (ν 0 27) - 1 = nI n := by rw [hN]; exact nI_pred n
    have hca : car_ok (ν 18) n (fr_put σx 24 4 (nI n)) := ⟨rfl, x25⟩
    obtain ⟨σ', ep, hst, hq⟩ := x_plan (C := ν 18) (n := n) (by omega) nC hca
    have hca' : car_ok (ν 18) n σ' := by
      unfold car_ok
      rw [hq 24 (by decide) (by decide), hq 25 (by decide) (by decide), hq 26 (by decide) (by decide)]
      exact hca
    refine ⟨nI n, σ', fr_put σm 0 27 (nI n), ?_, ?_, ?_⟩
    · unfold zX6_removeLast
      rw [if_pos (by rw [nI_lt0 (by omega)]; omega), e1, if_neg (nI_nle (by omega) (by omega)), e3, ep, Option.bind_some, Option.bind_some, hca'.1]
    · rw [if_neg (by rw [nI_eq0 (by omega)]; exact h), e3]; rfl
    · refine Rl_st (ν' := nup ν 0 27 n) hn hx hm hs hd ho hf (fun q hq => ?_) rfl (fun q hq' => ?_) (fun q hq' => ?_) rfl rfl (by show n ≤ 7; omega) nC hca' rfl m18 hst
      · unfold nup
        rw [if_neg (by rintro rfl; revert hq; decide)]
      · rw [hq q (by omega) (by omega), fr_put_at, if_neg (by omega)]
      · rw [fr_put_at, if_neg (by rintro rfl; revert hq'; decide)]
theorem row_sc {σ σ' : fr_St} (h : ∀ q, q ≠ 19 → q ≠ 20 → σ' q = σ q) : msc σ σ' := by
  refine ⟨fun q hq => h q (by rintro rfl; revert hq; decide) (by rintro rfl; revert hq; decide), ?_, ?_, ?_⟩ <;> rw [h 0 (by decide) (by decide)]
theorem ok_lent : sm_lent Rl := by
  rintro σx σm a1 ⟨ν, hn, hx, hm, hs, hd, ho, hf⟩
  have hR0 : Rl σx σm := ⟨ν, hn, hx, hm, hs, hd, ho, hf⟩
  have e1 : σx 24 4 = nI (ν 0 27) := hx.2.2.2.2.2.2.2.2.1
  have e2 : σm 0 27 = nI (ν 0 27) := hm.2.2.2.2.2.2.2.1
  have h7 : ν 0 27 ≤ 7 := hn.2.2.2.2.2.2.2.1
  unfold zX9_lent zX10_lent zX10_lentOf
  rw [in_m1_6]
  obtain ⟨σ', er, h20, hq⟩ := m_row (σ := σm) (C := ν 18) h7 hn.2.2.2.2.2.2.2.2 e2 hm.2.2.2.2.2.2.2.2
  have e2' : σ' 0 27 = nI (ν 0 27) := by rw [hq 0 (by decide) (by decide)]; exact e2
  rcases wi_cm a1 (M := 6) (m := 6) rfl (by decide) with h1 | ⟨rfl, h1⟩ | ⟨i, hi, rfl, h1⟩
  · exact ⟨-2, σm, by rw [if_pos h1], by rw [if_pos h1], hR0⟩
  · rw [h1, if10, if10, if_pos rfl, er, Option.bind_some]
    dsimp only
    rw [if_pos rfl, Option.bind_some]
    unfold zX6_leastLate
    rw [show fr_al 128 σx 28 0 = fr_al 128 σx 28 (nI 0) from rfl, fr_al_nI (by decide) (by decide), Option.bind_some, Option.bind_some, hd.2.2.1]
    exact ⟨_, σ', rfl, rfl, Rl_sc hR0 (row_sc hq)⟩
  · rw [h1, if10, if10, if_neg (nI_m1 (by omega)), er, Option.bind_some]
    dsimp only
    rw [if_neg (nI_m1 (by omega)), e1]
    simp only [e2']
    by_cases hl : ν 0 27 ≤ i
    · rw [if_pos (nI_le hl (by omega)), if_pos (nI_le hl (by omega)), Option.bind_some]
      exact ⟨_, σ', rfl, rfl, Rl_sc hR0 (row_sc hq)⟩
    · rw [if_neg (nI_ge (by omega) (by omega)), if_neg (nI_ge (by omega) (by omega)), fr_al_nI (show i < 7 by omega) (by decide), fr_al_nI (show i < 7 by omega) (by decide), Option.bind_some, Option.bind_some, Option.bind_some, hd.2.2.2 i (by omega), h20 i (by omega)]
      exact ⟨_, σ', rfl, rfl, Rl_sc hR0 (row_sc hq)⟩
