/-! sheets: made, laid, read, copied -/
theorem sheet_loop (σ : fr_St) (s n : Nat) (hs : s < 4) (hn : n ≤ 60) : fr_loop (fun (b3 : Int32 × fr_St) => zX10_sheet_L55 (nI s) (nI n) b3.1 b3.2) fr_fu (0, σ) = some (fr_row σ 3 (fun j => if 60 * s ≤ j ∧ j < 60 * s + n then 0 else σ 3 j)) := by
  have h := lp_seq (body := fun (b3 : Int32 × fr_St) => zX10_sheet_L55 (nI s) (nI n) b3.1 b3.2) (fun i => (nI i, fr_row σ 3 (fun j => if 60 * s ≤ j ∧ j < 60 * s + i then 0 else σ 3 j))) n (fr_row σ 3 (fun j => if 60 * s ≤ j ∧ j < 60 * s + n then 0 else σ 3 j)) (by omega) (fun i hi => by
      show zX10_sheet_L55 (nI s) (nI n) (nI i) _ = _
      unfold zX10_sheet_L55
      rw [if_neg (nI_ge hi (by omega)), show (60 : Int32) = nI 60 from rfl, pk_mul, nI_add, fr_as_nI (by omega) (by decide), fr_put_row]
      show some (Sum.inl (nI i + 1, _)) = _
      rw [nI_1]
      congr 4
      funext j
      simp only [upd]
      by_cases h1 : j = 60 * s + i
      · subst h1
        rw [if_pos rfl, if_pos (by omega)]
      · rw [if_neg h1]
        by_cases h2 : 60 * s ≤ j ∧ j < 60 * s + i
        · rw [if_pos h2, if_pos (by omega)]
        · rw [if_neg h2, if_neg (by omega)]) (by
      show zX10_sheet_L55 (nI s) (nI n) (nI n) _ = _
      unfold zX10_sheet_L55
      rw [if_pos (nI_le (Nat.le_refl n) (by omega))]) 0 (by omega)
  have e0 : ((nI 0, fr_row σ 3 (fun j => if 60 * s ≤ j ∧ j < 60 * s + 0 then 0 else σ 3 j)) : Int32 × fr_St) = (0, σ) := by
    have : (fun j => if 60 * s ≤ j ∧ j < 60 * s + 0 then 0 else σ 3 j) = σ 3 := by
      funext j
      rw [if_neg (by omega)]
    rw [this, fr_row_id, nI_0]
  rw [e0] at h
  exact h
theorem ok_sheet : sm_sheet Rl := by
  rintro σx σm a1 a2 a3 hR
  have hs : shr σx σm := by obtain ⟨ν, -, -, -, hs, -⟩ := hR; exact hs
  have hf : σx 0 9 = σm 0 4 := by obtain ⟨ν, -, -, -, -, -, -, hf⟩ := hR; exact hf
  unfold zX9_sheet zX10_sheet zX9_isSheet zX9_isForm
  simp only [in_isSheet, in_0_2]
  rcases wi_c a1 (M := 3) (m := 3) rfl (by decide) with h1 | ⟨s, hs3, rfl, h1⟩
  · exact ⟨-2, σx, σm, by rw [if_pos h1], by rw [if_pos h1], hR⟩
  rcases wi_c a2 (M := 2) (m := 2) rfl (by decide) with h2 | ⟨f, hf2, rfl, h2⟩
  · exact ⟨-2, σx, σm, by simp only [h1, if10]; rw [if_pos h2], by simp only [h1, if10]; rw [if_pos h2], hR⟩
  have hs4 : s < 4 := by omega
  by_cases h3 : a3 ≤ 60
  · by_cases h4 : 0 ≤ a3
    · obtain ⟨n, hn, rfl⟩ := nI_of2 (M := 60) (n := 60) (by decide) (Int32.not_lt.mpr h4) h3
      refine ⟨nI n, fr_put (fr_put (fr_row σx (34 + s) (fun j => if j < 60 then 0 else σx (34 + s) j)) (30 + s) 1 (nI f)) (30 + s) 2 (nI n), fr_row (fr_put (fr_put σm 1 s (nI f)) 2 s (nI n)) 3 (fun j => if 60 * s ≤ j ∧ j < 60 * s + n then 0 else (fr_put (fr_put σm 1 s (nI f)) 2 s (nI n)) 3 j), ?_, ?_, ?_⟩
      · unfold zX5_renew
        simp only [h1, h2, h3, h4, if10, if_true, fr_ar_nI hs4 (by decide), Option.bind_some, zfill _ _ 60 0 (by decide)]
      · simp only [h1, h2, h3, h4, if10, if_true, fr_as_nI (n := 4) hs4 (by decide), Option.bind_some, sheet_loop _ s n hs4 hn]
      · refine Rl_sh hR (fun q hq _ => ?_) ?_ (fun q hq => ?_) rfl rfl ?_ ?_
        · simp only [fr_put_at, fr_row_at]; rw [if_neg (by omega), if_neg (by omega), if_neg (by omega)]
        · simp only [fr_put_at, fr_row_at]; rw [if_neg (by omega), if_neg (by omega), if_neg (by omega)]
        · simp only [fr_put_at, fr_row_at]; rw [if_neg (by rintro rfl; revert hq; decide), if_neg (by rintro rfl; revert hq; decide), if_neg (by rintro rfl; revert hq; decide)]
        · refine shr_up hs hs4 hn (f := nI f) ?_ ?_ ?_ ?_ ?_ (Or.inr ⟨f, hf2, rfl⟩) (fun r hr hne => ?_) (fun r hr hne => ?_)
          · simp only [fr_put_at, if_true, upd_at]
          · simp [fr_put_at, fr_row_at, upd_at]
          · intro i hi
            simp only [fr_put_at, fr_row_at, if_true]
            rw [if_neg (by omega), if_neg (by omega), if_pos (by omega), if_pos (by omega)]
          · simp only [fr_put_at, if_true, upd_at]
            rw [if_neg (by decide)]
          · simp [fr_put_at, fr_row_at, upd_at]
          · simp only [fr_put_at, fr_row_at]
            rw [if_neg (by omega), if_neg (by omega), if_neg (by omega), if_neg (by omega), if_neg (by omega), if_neg (by omega)]
            exact ⟨rfl, rfl⟩
          · simp only [fr_put_at, fr_row_at, upd_at]
            refine ⟨by simp [hne, upd_at], by simp [hne, upd_at], fun i hi => ?_⟩
            simp only [if_true]
            rw [if_neg (by omega)]
            rfl
        · simp only [fr_put_at, fr_row_at]
          rw [if_neg (by omega), if_neg (by omega), if_neg (by omega)]
          exact hf
    · refine ⟨-10 - 5, fr_put σx 0 9 5, fr_put σm 0 4 5, ?_, ?_, Rl_found hR 5⟩
      · unfold zX9_found
        simp only [h1, h2, h3, h4, if10, if_true, if_false, Option.bind_some]
      · unfold zX10_met
        simp only [h1, h2, h3, h4, if10, if_true, if_false, Option.bind_some]
  · exact ⟨-2, σx, σm, by simp only [h1, h2, h3, if10, if_false], by simp only [h1, h2, h3, if10, if_false], hR⟩
/-- an index of a row of n -/
theorem wi_sz (a : Int32) {n : Nat} (hn : n < 2 ^ 30) : zX9_within a 0 (nI n - 1) = 0 ∨ ∃ i, i < n ∧ a = nI i ∧ zX9_within a 0 (nI n - 1) = 1 := by
  cases n with
  | zero =>
    left
    unfold zX9_within
    by_cases h : a < 0
    · rw [if_pos h]
    · rw [if_neg h, if_pos]
      have e := Int32.not_lt.mp h
      rw [show nI 0 - 1 = -1 from by decide, Int32.lt_iff_toInt_lt]
      have e1 := Int32.le_iff_toInt_le.mp e
      have e2 : (-1 : Int32).toInt = -1 := by decide
      have e3 : (0 : Int32).toInt = 0 := by decide
      omega
  | succ n =>
    rw [nI_pred]
    rcases wi_c a (M := nI n) (m := n) rfl (by omega) with h | ⟨j, hj, e, h⟩
    · exact Or.inl h
    · exact Or.inr ⟨j, by omega, e, h⟩
/-- what keeps an item from being touched: both tell the same -/
theorem hind {σx σm : fr_St} (hs : shr σx σm) {s f : Nat} (hs4 : s < 4) (hf : f ≤ 2) (a3 : Int32) :
    (∃ k : Int32, (k = 1 ∨ k = 2 ∨ k = 3) ∧ zX5_hindrance σx s (nI f) a3 = k ∧ zX10_lacks σm (nI s) (nI f) a3 = some (-10 - k, fr_put σm 0 4 k)) ∨
    (∃ i n, i < n ∧ n ≤ 60 ∧ a3 = nI i ∧ σx (30 + s) 2 = nI n ∧ σx (30 + s) 1 = nI f ∧ σx (34 + s) i = σm 3 (60 * s + i) ∧ zX5_hindrance σx s (nI f) a3 = 0 ∧ zX10_lacks σm (nI s) (nI f) a3 = some (0, σm)) := by
  obtain ⟨n, hn, x2, m2, it, hform⟩ := shr_at hs hs4
  unfold zX5_hindrance zX5_isLost zX10_lacks zX10_met
  simp only [fr_al_nI (n := 4) hs4 (by decide), Option.bind_some]
  rcases hform with ⟨x1, m1⟩ | ⟨f', hf2, x1, m1⟩
  · left
    refine ⟨1, Or.inl rfl, ?_, ?_⟩
    · rw [x1]; simp
    · rw [m1, if_neg neg1_lt]
  · rw [x1, m1, if_neg (nI_m1 (by omega)), if_pos rfl, if_pos (nI_ge0 (by omega))]
    by_cases e : f' = f
    · subst e
      rw [if_pos rfl, if_pos rfl, m2, x2, in_0h]
      rcases wi_sz a3 (n := n) (by omega) with h | ⟨i, hi, rfl, h⟩
      · exact Or.inl ⟨2, Or.inr (Or.inl rfl), by rw [if_pos h], by rw [if_pos h]⟩
      · exact Or.inr ⟨i, n, hi, hn, rfl, rfl, rfl, it i hi, by rw [h, if10], by rw [h, if10]⟩
    · left
      have e2 : ¬ nI f' = nI f := by rw [nI_eq (by omega) (by omega)]; exact e
      exact ⟨3, Or.inr (Or.inr rfl), by rw [if_neg e2], by rw [if_neg e2]⟩
theorem not123 {k : Int32} (h : k = 1 ∨ k = 2 ∨ k = 3) : ¬ k = 0 ∧ ¬ -10 - k = 0 := by
  rcases h with e | e | e <;> subst e <;> decide
theorem cut_put (σ : fr_St) (s f i : Nat) (v : Int32) (hi : i < 60) (hf : f ≤ 2) (e : σ (30 + s) 1 = nI f) : zX5_put σ s (nI i) v = some (fr_put σ (34 + s) i (zX10_cut (nI f) v)) := by
  unfold zX5_put zX10_cut
  rw [show (59 : Int32) = nI 59 from rfl, wi_nI (by omega) (by decide), if10, e]
  rcases (by omega : f = 0 ∨ f = 1 ∨ f = 2) with h | h | h <;> subst h
  · rw [if_pos (by rfl), if_pos (by rfl), fr_as_nI hi (by decide)]; rfl
  · rw [if_neg (by decide), if_pos (by rfl), if_neg (by decide), if_pos (by rfl), fr_as_nI hi (by decide)]; rfl
  · rw [if_neg (by decide), if_neg (by decide), if_neg (by decide), if_neg (by decide), fr_as_nI hi (by decide)]; rfl
/-- an item is laid in both -/
theorem Rl_lay {σx σm : fr_St} (hR : Rl σx σm) {s i : Nat} (hs4 : s < 4) (v : Int32) {n : Nat} (hi : i < n) (hn : n ≤ 60) (x2 : σx (30 + s) 2 = nI n) : Rl (fr_put σx (34 + s) i v) (fr_put σm 3 (60 * s + i) v) := by
  have hs : shr σx σm := by obtain ⟨ν, -, -, -, hs, -⟩ := hR; exact hs
  have hf : σx 0 9 = σm 0 4 := by obtain ⟨ν, -, -, -, -, -, -, hf⟩ := hR; exact hf
  refine Rl_sh hR (fun q hq _ => by simp only [fr_put_at]; rw [if_neg (by omega)]) (by simp only [fr_put_at]; rw [if_neg (by omega)]) (fun q hq => ?_) rfl rfl ?_ ?_
  · simp only [fr_put_at]; rw [if_neg (by rintro rfl; revert hq; decide)]
  · obtain ⟨n', hn', x2', m2, it, hform⟩ := shr_at hs hs4
    have en : n' = n := (nI_eq (by omega) (by omega)).mp (by rw [← x2', x2])
    subst en
    have h3 := (hs s hs4).2
    refine shr_up hs hs4 hn (f := σm 1 s) ?_ m2 ?_ ?_ rfl h3.2 (fun r hr hne => ?_) (fun r hr hne => ?_)
    · simp only [fr_put_at]; rw [if_neg (by omega)]; exact x2
    · intro j hj
      simp only [fr_put_at, if_true, upd_at]
      by_cases e : j = i
      · subst e; rw [if_pos rfl, if_pos rfl]
      · rw [if_neg e, if_neg (by omega)]; exact it j hj
    · simp only [fr_put_at]; rw [if_neg (by omega)]; exact h3.1
    · simp only [fr_put_at]; rw [if_neg (by omega), if_neg (by omega)]; exact ⟨rfl, rfl⟩
    · refine ⟨rfl, rfl, fun j hj => ?_⟩
      simp only [fr_put_at, if_true, upd_at]; rw [if_neg (by omega)]
  · simp only [fr_put_at]; rw [if_neg (by omega), if_neg (by decide)]; exact hf
theorem ok_lay : sm_lay Rl := by
  rintro σx σm a1 a2 a3 a4 hR
  have hs : shr σx σm := by obtain ⟨ν, -, -, -, hs, -⟩ := hR; exact hs
  unfold zX9_lay zX10_lay zX9_isSheet zX9_isForm
  simp only [in_isSheet, in_0_2]
  rcases wi_c a1 (M := 3) (m := 3) rfl (by decide) with h1 | ⟨s, hs3, rfl, h1⟩
  · exact ⟨-2, σx, σm, by rw [if_pos h1], by rw [if_pos h1], hR⟩
  rcases wi_c a2 (M := 2) (m := 2) rfl (by decide) with h2 | ⟨f, hf2, rfl, h2⟩
  · exact ⟨-2, σx, σm, by simp only [h1, if10]; rw [if_pos h2], by simp only [h1, if10]; rw [if_pos h2], hR⟩
  have hs4 : s < 4 := by omega
  simp only [h1, h2, if10, fr_ar_nI hs4 (by decide), Option.bind_some]
  rcases hind hs hs4 hf2 a3 with ⟨k, hk, e1, e2⟩ | ⟨i, n, hi, hn, rfl, x2, x1, it, e1, e2⟩
  · refine ⟨-10 - k, fr_put σx 0 9 k, fr_put σm 0 4 k, ?_, ?_, Rl_found hR k⟩
    · unfold zX9_found
      rw [e1, if_neg (not123 hk).1]; rfl
    · rw [e2, Option.bind_some, if_neg (not123 hk).2]
  · refine ⟨1, fr_put σx (34 + s) i (zX10_cut (nI f) a4), fr_put σm 3 (60 * s + i) (zX10_cut (nI f) a4), ?_, ?_, Rl_lay hR hs4 _ hi hn x2⟩
    · rw [e1, if00, cut_put σx s f i a4 (by omega) hf2 x1]; rfl
    · rw [e2, Option.bind_some, if00, show (60 : Int32) = nI 60 from rfl, pk_mul, nI_add, fr_as_nI (by omega) (by decide)]; rfl
theorem ok_get : sm_get Rl := by
  rintro σx σm a1 a2 a3 hR
  have hs : shr σx σm := by obtain ⟨ν, -, -, -, hs, -⟩ := hR; exact hs
  unfold zX9_get zX10_get zX9_isSheet zX9_isForm
  simp only [in_isSheet, in_0_2]
  rcases wi_c a1 (M := 3) (m := 3) rfl (by decide) with h1 | ⟨s, hs3, rfl, h1⟩
  · exact ⟨-2147483648, σx, σm, by rw [if_pos h1], by rw [if_pos h1], hR⟩
  rcases wi_c a2 (M := 2) (m := 2) rfl (by decide) with h2 | ⟨f, hf2, rfl, h2⟩
  · exact ⟨-2147483648, σx, σm, by simp only [h1, if10]; rw [if_pos h2], by simp only [h1, if10]; rw [if_pos h2], hR⟩
  have hs4 : s < 4 := by omega
  simp only [h1, h2, if10, fr_ar_nI hs4 (by decide), Option.bind_some]
  rcases hind hs hs4 hf2 a3 with ⟨k, hk, e1, e2⟩ | ⟨i, n, hi, hn, rfl, x2, x1, it, e1, e2⟩
  · refine ⟨-2147483648, fr_put σx 0 9 k, fr_put σm 0 4 k, ?_, ?_, Rl_found hR k⟩
    · rw [e1, if_neg (not123 hk).1]
    · rw [e2, Option.bind_some, if_neg (not123 hk).2]
  · refine ⟨σm 3 (60 * s + i), σx, σm, ?_, ?_, hR⟩
    · rw [e1, if00, fr_al_nI (by omega) (by decide), it]; rfl
    · rw [e2, Option.bind_some, if00, show (60 : Int32) = nI 60 from rfl, pk_mul, nI_add, fr_al_nI (by omega) (by decide)]; rfl
