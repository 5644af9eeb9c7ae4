/-! copy and read -/
theorem hr_neg1 {σ : fr_St} {s : Nat} {a b : Int32} (h : a < 0) : zX5_hasRun σ s a b = 0 := by
  unfold zX5_hasRun
  rw [if_pos h]
theorem wi_neg {a h : Int32} (ha : a < 0) : zX9_within a 0 h = 0 := by
  unfold zX9_within
  rw [if_pos ha]
theorem hr_neg2 {σ : fr_St} {s : Nat} {a b : Int32} (h : b < 0) : zX5_hasRun σ s a b = 0 := by
  unfold zX5_hasRun
  rw [wi_neg h]
  by_cases ha : a < 0
  · rw [if_pos ha]
  · rw [if_neg ha, if00]
theorem hr_val {σ : fr_St} {s i n k : Nat} (hi : i < 2 ^ 31) (hn : n < 2 ^ 31) (hk : k ≤ 60) (e : σ (30 + s) 2 = nI k) : zX5_hasRun σ s (nI i) (nI n) = if i + n ≤ k then 1 else 0 := by
  unfold zX5_hasRun
  rw [if_neg (nI_pos hi), e]
  by_cases h : n ≤ k
  · rw [wi_nI h (by omega), if10, pk_sub h]
    by_cases h2 : i + n ≤ k
    · rw [if_neg (by rw [nI_ltI (by omega) hi]; omega), if_pos h2]
    · rw [if_pos (by rw [nI_ltI (by omega) hi]; omega), if_neg h2]
  · have : zX9_within (nI n) 0 (nI k) = 0 := by
      unfold zX9_within
      rw [if_neg (nI_pos hn), if_pos (by rw [nI_ltI (by omega) hn]; omega)]
    rw [this, if00, if_neg (by omega)]
theorem lg_over {i n k : Nat} (hi : i < 2 ^ 31) (hn : n < 2 ^ 31) (hk : k ≤ 60) : 0 < lg_cmp ((nI i).toInt64 + (nI n).toInt64) (nI k).toInt64 ↔ k < i + n := by
  rw [lgc_gt, nI_l hi, nI_l hn, nI_l (by omega), lN_add, pk_lLT (by omega) (by omega)]
theorem lg_over2 {i n k : Nat} (hi : i < 2 ^ 31) (hn : n < 2 ^ 31) (hk : k ≤ 60) : lg_cmp ((nI i).toInt64 + (nI n).toInt64) (nI k).toInt64 ≤ 0 ↔ i + n ≤ k := by
  rw [← Int32.not_lt, lg_over hi hn hk]; omega
theorem copy_loop1 (σ : fr_St) (s i n : Nat) (a3 a4 : Int32) (hs : s < 4) (hn : i + n ≤ 60) : fr_loop (fun (b17 : Int32 × fr_St) => zX10_copy_L120 (nI s) (nI i) a3 a4 (nI n) b17.1 b17.2) fr_fu (0, σ) = some (fr_row σ 4 (fun a => if a < n then σ 3 (60 * s + i + a) else σ 4 a)) := by
  have h := lp_seq (body := fun (b17 : Int32 × fr_St) => zX10_copy_L120 (nI s) (nI i) a3 a4 (nI n) b17.1 b17.2) (fun k => (nI k, fr_row σ 4 (fun a => if a < k then σ 3 (60 * s + i + a) else σ 4 a))) n (fr_row σ 4 (fun a => if a < n then σ 3 (60 * s + i + a) else σ 4 a)) (by omega) (fun k hk => by
      show zX10_copy_L120 (nI s) (nI i) a3 a4 (nI n) (nI k) _ = _
      unfold zX10_copy_L120
      rw [if_neg (nI_ge hk (by omega)), show (60 : Int32) = nI 60 from rfl, pk_mul, nI_add, nI_add, fr_al_nI (by omega) (by decide), Option.bind_some, fr_as_nI (by omega) (by decide), fr_put_row, Option.bind_some, nI_1]
      congr 4
      funext j
      simp only [upd]
      by_cases h1 : j = k
      · subst h1
        rw [if_pos rfl, if_pos (by omega), fr_row_ne (by decide)]
      · rw [if_neg h1]
        by_cases h2 : j < k
        · rw [if_pos h2, if_pos (by omega)]
        · rw [if_neg h2, if_neg (by omega)]) (by
      show zX10_copy_L120 (nI s) (nI i) a3 a4 (nI n) (nI n) _ = _
      unfold zX10_copy_L120
      rw [if_pos (nI_le (Nat.le_refl n) (by omega))]) 0 (by omega)
  have e0 : ((nI 0, fr_row σ 4 (fun a => if a < 0 then σ 3 (60 * s + i + a) else σ 4 a)) : Int32 × fr_St) = (0, σ) := by
    simp [fr_row_id, nI_0]
  rw [e0] at h
  exact h
theorem copy_loop2 (σ : fr_St) (t j n : Nat) (ht : t < 4) (hn : j + n ≤ 60) : fr_loop (fun (b21 : Int32 × fr_St) => zX10_copy_L157 (nI t) (nI j) (nI n) b21.1 b21.2) fr_fu (0, σ) = some (fr_row σ 3 (fun q => if 60 * t + j ≤ q ∧ q < 60 * t + j + n then σ 4 (q - (60 * t + j)) else σ 3 q)) := by
  have h := lp_seq (body := fun (b21 : Int32 × fr_St) => zX10_copy_L157 (nI t) (nI j) (nI n) b21.1 b21.2) (fun k => (nI k, fr_row σ 3 (fun q => if 60 * t + j ≤ q ∧ q < 60 * t + j + k then σ 4 (q - (60 * t + j)) else σ 3 q))) n (fr_row σ 3 (fun q => if 60 * t + j ≤ q ∧ q < 60 * t + j + n then σ 4 (q - (60 * t + j)) else σ 3 q)) (by omega) (fun k hk => by
      show zX10_copy_L157 (nI t) (nI j) (nI n) (nI k) _ = _
      unfold zX10_copy_L157
      rw [if_neg (nI_ge hk (by omega)), fr_al_nI (by omega) (by decide), Option.bind_some, show (60 : Int32) = nI 60 from rfl, pk_mul, nI_add, nI_add, fr_as_nI (by omega) (by decide), fr_put_row, Option.bind_some, nI_1]
      congr 4
      funext q
      simp only [upd]
      by_cases h1 : q = 60 * t + j + k
      · subst h1
        rw [if_pos rfl, if_pos (by omega), fr_row_ne (by decide)]
        congr 1
        omega
      · rw [if_neg h1]
        by_cases h2 : 60 * t + j ≤ q ∧ q < 60 * t + j + k
        · rw [if_pos h2, if_pos (by omega)]
        · rw [if_neg h2, if_neg (by omega)]) (by
      show zX10_copy_L157 (nI t) (nI j) (nI n) (nI n) _ = _
      unfold zX10_copy_L157
      rw [if_pos (nI_le (Nat.le_refl n) (by omega))]) 0 (by omega)
  have e0 : ((nI 0, fr_row σ 3 (fun q => if 60 * t + j ≤ q ∧ q < 60 * t + j + 0 then σ 4 (q - (60 * t + j)) else σ 3 q)) : Int32 × fr_St) = (0, σ) := by
    have : (fun q => if 60 * t + j ≤ q ∧ q < 60 * t + j + 0 then σ 4 (q - (60 * t + j)) else σ 3 q) = σ 3 := by
      funext q
      rw [if_neg (by omega)]
    rw [this, fr_row_id, nI_0]
  rw [e0] at h
  exact h
theorem ok_copy : sm_copy Rl := by
  rintro σx σm a1 a2 a3 a4 a5 hR
  have hs : shr σx σm := by obtain ⟨ν, -, -, -, hs, -⟩ := hR; exact hs
  have hf : σx 0 9 = σm 0 4 := by obtain ⟨ν, -, -, -, -, -, -, hf⟩ := hR; exact hf
  unfold zX9_copy zX10_copy zX9_isSheet
  simp only [in_isSheet]
  rcases wi_c a1 (M := 3) (m := 3) rfl (by decide) with h1 | ⟨s, hs3, rfl, h1⟩
  · exact ⟨-2, σx, σm, by rw [if_pos h1], by rw [if_pos h1], hR⟩
  rcases wi_c a3 (M := 3) (m := 3) rfl (by decide) with h2 | ⟨t, ht3, rfl, h2⟩
  · exact ⟨-2, σx, σm, by simp only [h1, if10]; rw [if_pos h2], by simp only [h1, if10]; rw [if_pos h2], hR⟩
  have hs4 : s < 4 := by omega
  have ht4 : t < 4 := by omega
  obtain ⟨n1, hn1, x2, m2, it1, hform1⟩ := shr_at hs hs4
  obtain ⟨n2, hn2, y2, l2, it2, hform2⟩ := shr_at hs ht4
  simp only [h1, h2, if10, fr_ar_nI hs4 (by decide), fr_ar_nI ht4 (by decide), fr_al_nI (n := 4) hs4 (by decide), fr_al_nI (n := 4) ht4 (by decide), Option.bind_some]
  unfold zX5_isLost zX9_found zX10_met
  have F : ∀ k : Int32, Rl (fr_put σx 0 9 k) (fr_put σm 0 4 k) := fun k => Rl_found hR k
  rcases hform1 with ⟨x1, m1⟩ | ⟨f1, hf1, x1, m1⟩
  · refine ⟨-10 - 1, fr_put σx 0 9 1, fr_put σm 0 4 1, ?_, ?_, F 1⟩
    · rw [x1]; simp
    · rw [m1, if_pos (by decide)]; rfl
  rcases hform2 with ⟨y1, l1⟩ | ⟨f2, hf2, y1, l1⟩
  · refine ⟨-10 - 1, fr_put σx 0 9 1, fr_put σm 0 4 1, ?_, ?_, F 1⟩
    · rw [x1, y1, if_neg (nI_m1 (by omega)), if00]; simp
    · rw [m1, l1, if_neg (nI_pos (by omega)), if_neg neg1_lt]; rfl
  rw [x1, y1, m1, l1, if_neg (nI_m1 (by omega)), if00, if_neg (nI_m1 (by omega)), if00, if_neg (nI_pos (by omega)), if_pos (nI_ge0 (by omega))]
  by_cases hff : ¬ nI f1 = nI f2
  · exact ⟨-10 - 4, fr_put σx 0 9 4, fr_put σm 0 4 4, by rw [if_neg hff]; rfl, by rw [if_neg hff]; rfl, F 4⟩
  have hff := Decidable.not_not.mp hff
  rw [if_pos hff, if_pos hff, m2, l2]
  have X2 : ∀ q : Option (Int32 × fr_St), q = some (-10 - 2, fr_put σm 0 4 2) → (zX5_hasRun σx s a2 a5 = 0 ∨ zX5_hasRun σx t a4 a5 = 0) → ∃ (r : Int32) (σx' σm' : fr_St), (if zX5_hasRun σx s a2 a5 = 0 then (some (-10 - 2, fr_put σx 0 9 2)).bind (fun p6 => some (p6.1, p6.2)) else if zX5_hasRun σx t a4 a5 = 0 then (some (-10 - 2, fr_put σx 0 9 2)).bind (fun p9 => some (p9.1, p9.2)) else (fr_cp 60 60 σx (34 + s) a2 (34 + t) a4 a5).bind (fun σ7 => some (1, σ7))) = some (r, σx') ∧ q = some (r, σm') ∧ Rl σx' σm' := by
    intro q hq hh
    refine ⟨-10 - 2, fr_put σx 0 9 2, fr_put σm 0 4 2, ?_, hq, F 2⟩
    rcases hh with hh | hh
    · rw [if_pos hh]; rfl
    · rw [if_pos hh]
      by_cases h : zX5_hasRun σx s a2 a5 = 0
      · rw [if_pos h]; rfl
      · rw [if_neg h]; rfl
  by_cases c1 : a2 < 0
  · exact X2 _ (by rw [if_pos c1]; rfl) (Or.inl (hr_neg1 c1))
  by_cases c2 : a4 < 0
  · exact X2 _ (by rw [if_neg c1, if_pos c2]; rfl) (Or.inr (hr_neg1 c2))
  by_cases c3 : a5 < 0
  · exact X2 _ (by rw [if_neg c1, if_neg c2, if_pos c3]; rfl) (Or.inl (hr_neg2 c3))
  obtain ⟨i, hi, rfl⟩ := nI_of c1
  obtain ⟨j, hj, rfl⟩ := nI_of c2
  obtain ⟨n, hn, rfl⟩ := nI_of c3
  rw [if_neg c1, if_neg c2, if_neg c3]
  by_cases c4 : ¬ i + n ≤ n1
  · exact X2 _ (by rw [if_pos ((lg_over hi hn hn1).mpr (by omega))]; rfl) (Or.inl (by rw [hr_val hi hn hn1 x2, if_neg c4]))
  have c4 := Decidable.not_not.mp c4
  have c4' : ¬ 0 < lg_cmp ((nI i).toInt64 + (nI n).toInt64) (nI n1).toInt64 := fun h => by have := (lg_over hi hn hn1).mp h; omega
  rw [if_neg c4']
  by_cases c5 : ¬ j + n ≤ n2
  · exact X2 _ (by rw [if_neg (fun h => c5 ((lg_over2 hj hn hn2).mp h))]; rfl) (Or.inr (by rw [hr_val hj hn hn2 y2, if_neg c5]))
  have c5 := Decidable.not_not.mp c5
  rw [if_pos ((lg_over2 hj hn hn2).mpr c5), hr_val hi hn hn1 x2, hr_val hj hn hn2 y2, if_pos c4, if_pos c5, if10, if10, copy_loop1 σm s i n _ _ hs4 (by omega), Option.bind_some, copy_loop2 _ t j n ht4 (by omega), Option.bind_some]
  have ecp : fr_cp 60 60 σx (34 + s) (nI i) (34 + t) (nI j) (nI n) = some (fr_row σx (34 + t) (va_cpy (σx (34 + s)) (σx (34 + t)) i j n)) := by
    unfold fr_cp
    rw [if_pos (by rw [nI_toInt hi, nI_toInt hj, nI_toInt hn]; omega), nI_clamp hi, nI_clamp hj, nI_clamp hn]
  rw [ecp]
  refine ⟨1, _, _, rfl, rfl, ?_⟩
  refine Rl_sh hR (fun q hq _ => by rw [fr_row_ne (by omega)]) (by rw [fr_row_ne (by omega)]) (fun q hq => ?_) rfl rfl ?_ ?_
  · rw [fr_row_ne (by rintro rfl; revert hq; decide), fr_row_ne (by rintro rfl; revert hq; decide)]
  · have h3 := (hs t ht4).2
    refine shr_up hs ht4 hn2 (f := σm 1 t) (by rw [fr_row_ne (by omega)]; exact y2) l2 ?_ (by rw [fr_row_ne (by omega)]; exact h3.1) rfl h3.2 (fun r hr hne => ⟨fr_row_ne (by omega), fr_row_ne (by omega)⟩) (fun r hr hne => ⟨rfl, rfl, fun k hk => ?_⟩)
    · intro k hk
      rw [fr_row_self, fr_row_self]
      unfold va_cpy
      by_cases c : j ≤ k ∧ k < j + n
      · rw [if_pos c, if_pos (by omega), fr_row_self, if_pos (by omega), it1 _ (by omega)]
        congr 1
        omega
      · rw [if_neg c, if_neg (by omega), fr_row_ne (by decide), it2 k hk]
    · rw [fr_row_self, if_neg (by omega), fr_row_ne (by decide)]
  · rw [fr_row_ne (by omega), fr_row_ne (by decide), fr_row_ne (by decide)]
    exact hf
/-- the loops of read, step by step -/
theorem ok_read : sm_read Rl := by
  rintro σx σm a1 a2 ⟨ν, hn, hx, hm, hs, hd, ho, hf⟩
  have hR : Rl σx σm := ⟨ν, hn, hx, hm, hs, hd, ho, hf⟩
  unfold zX9_read zX10_read zX9_isSheet zX9_isKind
  simp only [in_isSheet, in_0_4]
  rcases wi_c a1 (M := 3) (m := 3) rfl (by decide) with h1 | ⟨s, hs3, rfl, h1⟩
  · exact ⟨-2, σx, σm, by rw [if_pos h1], by rw [if_pos h1], hR⟩
  rcases wi_c a2 (M := 4) (m := 4) rfl (by decide) with h2 | ⟨k, hk, rfl, h2⟩
  · exact ⟨-2, σx, σm, by simp only [h1, if10]; rw [if_pos h2], by simp only [h1, if10]; rw [if_pos h2], hR⟩
  have hs4 : s < 4 := by omega
  obtain ⟨n, hn60, x2, m2, it, hform⟩ := shr_at hs hs4
  simp only [h1, h2, if10, fr_ar_nI hs4 (by decide), fr_al_nI (n := 4) hs4 (by decide), Option.bind_some]
  unfold zX5_isLost zX9_found zX10_met
  rcases hform with ⟨x1, m1⟩ | ⟨f1, hf1, x1, m1⟩
  · refine ⟨-10 - 1, fr_put σx 0 9 1, fr_put σm 0 4 1, ?_, ?_, Rl_found hR 1⟩
    · rw [x1]; simp
    · rw [m1, if_neg neg1_lt]; rfl
  rw [x1, m1, if_neg (nI_m1 (by omega)), if00, if_pos (nI_ge0 (by omega)), x2]
  have emin : (if (32 : Int32) < nI n then 32 else nI n) = nI (min n 32) := by
    rw [show (32 : Int32) = nI 32 from rfl]
    by_cases h : 32 < n
    · rw [if_pos (by rw [nI_ltI (by decide) (by omega)]; exact h), Nat.min_eq_right (by omega)]
    · rw [if_neg (by rw [nI_ltI (by decide) (by omega)]; exact h), Nat.min_eq_left (by omega)]
  rw [emin]
  obtain ⟨c, c', e1, e2, hq⟩ := lp_two (body := fun (b2 : Int32 × fr_St) => zX9_read_L51 s (nI k) (nI (min n 32)) b2.1 b2.2) (body' := fun (b2 : Int32 × fr_St) => zX10_read_L39 (nI s) (nI k) b2.1 b2.2)
    (fun i b b' => ∃ (g : Nat → Nat) (fx fm : Nat → Int32), (∀ j, j < 160 → g j ≤ 9) ∧ (∀ j, j < 160 → fx j = nI (g j)) ∧ (∀ j, j < 160 → fm j = nI (g j)) ∧ b = (nI i, fr_row σx 13 fx) ∧ b' = (nI i, fr_row σm 13 fm))
    (fun c c' => ∃ (i : Nat) (g : Nat → Nat) (fx fm : Nat → Int32), (∀ j, j < 160 → g j ≤ 9) ∧ (∀ j, j < 160 → fx j = nI (g j)) ∧ (∀ j, j < 160 → fm j = nI (g j)) ∧ c = (nI i, fr_row σx 13 fx) ∧ c' = (nI i, fr_row σm 13 fm)) (min n 32) (by omega)
    (fun i b b' hi hI => by
      obtain ⟨g, fx, fm, hg, hfx, hfm, rfl, rfl⟩ := hI
      show (∃ c c', zX9_read_L51 s (nI k) (nI (min n 32)) (nI i) (fr_row σx 13 fx) = some (.inl c) ∧ zX10_read_L39 (nI s) (nI k) (nI i) (fr_row σm 13 fm) = some (.inl c') ∧ _) ∨ (∃ c c', zX9_read_L51 s (nI k) (nI (min n 32)) (nI i) (fr_row σx 13 fx) = some (.inr c) ∧ zX10_read_L39 (nI s) (nI k) (nI i) (fr_row σm 13 fm) = some (.inr c') ∧ _)
      have hin : i < n := by omega
      have h32 : i < 32 := by omega
      have hlt : 32 * k + i < 160 := by omega
      have wi31 : zX9_within (nI i) 0 31 = 1 := wi_nI (m := 31) (by omega) (by decide)
      have ex : nI k * 32 + nI i = nI (32 * k + i) := by rw [show (32 : Int32) = nI 32 from rfl, pk_mul, nI_add, Nat.mul_comm]
      have em : 32 * nI k + nI i = nI (32 * k + i) := by rw [show (32 : Int32) = nI 32 from rfl, pk_mul, nI_add]
      have e60 : 60 * nI s + nI i = nI (60 * s + i) := by rw [show (60 : Int32) = nI 60 from rfl, pk_mul, nI_add]
      have r1 : (fr_row σx 13 fx) (34 + s) = σx (34 + s) := fr_row_ne (by omega)
      have r2 : (fr_row σm 13 fm) 2 = σm 2 := fr_row_ne (by decide)
      have r3 : (fr_row σm 13 fm) 3 = σm 3 := fr_row_ne (by decide)
      have hit := it i hin
      have lX : zX9_read_L51 s (nI k) (nI (min n 32)) (nI i) (fr_row σx 13 fx) = if zX9_within (σm 3 (60 * s + i)) 0 9 = 0 then some (.inr (nI i, fr_row σx 13 fx)) else some (.inl (nI (i + 1), fr_row σx 13 (upd fx (32 * k + i) (σm 3 (60 * s + i))))) := by
        unfold zX9_read_L51 zX8_put zX9_isKind zX9_isCell
        rw [if_neg (nI_ge hi (by omega))]
        simp only [fr_al_nI (n := 60) (show i < 60 by omega) (by decide), r1, hit, Option.bind_some, h2, wi31, if10, ex, fr_as_nI hlt (by decide), fr_put_row, nI_1]
      have lM : zX10_read_L39 (nI s) (nI k) (nI i) (fr_row σm 13 fm) = if zX9_within (σm 3 (60 * s + i)) 0 9 = 0 then some (.inr (nI i, fr_row σm 13 fm)) else some (.inl (nI (i + 1), fr_row σm 13 (upd fm (32 * k + i) (σm 3 (60 * s + i))))) := by
        unfold zX10_read_L39 zX10_looks
        simp only [fr_al_nI (n := 4) hs4 (by decide), r2, m2, Option.bind_some]
        rw [if_neg (nI_ge hin (by omega)), e60]
        simp only [fr_al_nI (n := 240) (show 60 * s + i < 240 by omega) (by decide), r3, Option.bind_some, in_0_4, in_isCell, in_0_9, h2, wi31, if10, em, fr_al_nI hlt (by decide), fr_as_nI hlt (by decide), fr_put_row, fr_row_self]
        by_cases hw : zX9_within (σm 3 (60 * s + i)) 0 9 = 0
        · rw [if_pos hw, if_pos hw, Option.bind_some, if_pos (show (-2 : Int32) < 0 by decide)]
        · rw [if_neg hw, if_neg hw, Option.bind_some, hfm _ hlt, if_neg (nI_pos (by have := hg _ hlt; omega)), nI_1]
      rw [lX, lM]
      rcases wi_c (σm 3 (60 * s + i)) (M := 9) (m := 9) rfl (by decide) with hw | ⟨v, hv, ev, hw⟩
      · right
        exact ⟨_, _, by rw [if_pos hw], by rw [if_pos hw], i, g, fx, fm, hg, hfx, hfm, rfl, rfl⟩
      · left
        rw [ev] at hw ⊢
        exact ⟨_, _, by rw [hw, if10], by rw [hw, if10], fun b => if b = 32 * k + i then v else g b, _, _, up_le hg hv, row_up hfx, row_up hfm, rfl, rfl⟩)
    (fun b b' hI => by
      obtain ⟨g, fx, fm, hg, hfx, hfm, rfl, rfl⟩ := hI
      show ∃ c c', zX9_read_L51 s (nI k) (nI (min n 32)) (nI (min n 32)) (fr_row σx 13 fx) = some (.inr c) ∧ zX10_read_L39 (nI s) (nI k) (nI (min n 32)) (fr_row σm 13 fm) = some (.inr c') ∧ _
      refine ⟨(nI (min n 32), fr_row σx 13 fx), (nI (min n 32), fr_row σm 13 fm), ?_, ?_, min n 32, g, fx, fm, hg, hfx, hfm, rfl, rfl⟩
      · unfold zX9_read_L51
        rw [if_pos (nI_le (Nat.le_refl _) (by omega))]
      · unfold zX10_read_L39 zX10_looks
        have r2 : (fr_row σm 13 fm) 2 = σm 2 := fr_row_ne (by decide)
        have r3 : (fr_row σm 13 fm) 3 = σm 3 := fr_row_ne (by decide)
        simp only [fr_al_nI (n := 4) hs4 (by decide), r2, m2, Option.bind_some]
        by_cases h : n ≤ 32
        · rw [Nat.min_eq_left h, if_pos (nI_le (Nat.le_refl _) (by omega))]
        · rw [Nat.min_eq_right (by omega), if_neg (nI_ge (by omega) (by omega)), show (60 : Int32) = nI 60 from rfl, pk_mul, nI_add]
          have w31 : zX9_within (nI 32) 0 31 = 0 := by decide
          simp only [fr_al_nI (n := 240) (show 60 * s + 32 < 240 by omega) (by decide), Option.bind_some, in_0_4, in_isCell, h2, w31, if10, if00, if_true]
          rw [if_pos (by decide)])
    0 (0, σx) (0, σm) (by omega) ⟨ν 13, σx 13, σm 13, hn.2.2.2.2.1, hx.2.2.2.2.2.1, hm.2.2.2.2.1, by rw [fr_row_id, nI_0], by rw [fr_row_id, nI_0]⟩
  obtain ⟨i, g, fx, fm, hg, hfx, hfm, rfl, rfl⟩ := hq
  refine ⟨nI i, fr_put (fr_row σx 13 fx) 0 8 1, fr_row σm 13 fm, by rw [e1]; rfl, by rw [e2]; rfl, ?_⟩
  refine ⟨fun a => if a = 13 then g else ν a, ⟨hn.1, hn.2.1, hn.2.2.1, hn.2.2.2.1, hg, hn.2.2.2.2.2⟩, ⟨hx.1, hx.2.1, hx.2.2.1, hx.2.2.2.1, hx.2.2.2.2.1, hfx, hx.2.2.2.2.2.2⟩, ⟨hm.1, hm.2.1, hm.2.2.1, hm.2.2.2.1, hfm, hm.2.2.2.2.2⟩, ?_, hd, Or.inl rfl, hf⟩
  exact shr_m (shr_x hs (fun q h1 h2 => by simp only [fr_put_at, fr_row_at]; rw [if_neg (by omega), if_neg (by omega)])) (fun q hq => by rw [fr_row_ne (by rintro rfl; revert hq; decide)])
