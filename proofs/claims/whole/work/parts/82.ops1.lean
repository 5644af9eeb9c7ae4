/-! the plain calls -/
theorem if10 {α : Sort _} {x y : α} : (if (1 : Int32) = 0 then x else y) = y := if_neg (by decide)
theorem if00 {α : Sort _} {x y : α} : (if (0 : Int32) = 0 then x else y) = x := if_pos rfl
theorem if01 {α : Sort _} {x y : α} : (if (0 : Int32) = 1 then x else y) = y := if_neg (by decide)
theorem if11 {α : Sort _} {x y : α} : (if (1 : Int32) = 1 then x else y) = x := if_pos rfl
theorem row_up {f : Nat → Int32} {g : Nat → Nat} {n t v : Nat} (h : ∀ j, j < n → f j = nI (g j)) : ∀ j, j < n → upd f t (nI v) j = nI ((fun b => if b = t then v else g b) j) := by
  intro j hj
  simp only [upd_at]
  by_cases e : j = t
  · simp [e]
  · simp only [if_neg e]; exact h j hj
theorem up_le {g : Nat → Nat} {n t v B : Nat} (h : ∀ j, j < n → g j ≤ B) (hv : v ≤ B) : ∀ j, j < n → (fun b => if b = t then v else g b) j ≤ B := by
  intro j hj
  by_cases e : j = t
  · simp [e, hv]
  · simp only [if_neg e]; exact h j hj
theorem wi_01 (a : Int32) : zX9_within a 0 1 = 0 ∨ (a = 0 ∧ zX9_within a 0 1 = 1) ∨ (a = 1 ∧ zX9_within a 0 1 = 1) := by
  rcases wi_c a (M := 1) (m := 1) rfl (by decide) with h | ⟨j, hj, e, h⟩
  · exact Or.inl h
  · rcases (by omega : j = 0 ∨ j = 1) with e2 | e2
    · exact Or.inr (Or.inl ⟨by rw [e, e2]; rfl, h⟩)
    · exact Or.inr (Or.inr ⟨by rw [e, e2]; rfl, h⟩)
theorem ok_tool : sm_tool Rl := by
  rintro σx σm a1 a2 a3 ⟨ν, hn, hx, hm, hs, hd, ho, hf⟩
  have hR : Rl σx σm := ⟨ν, hn, hx, hm, hs, hd, ho, hf⟩
  unfold zX9_tool zX10_tool zX9_isTool zX9_isPair
  simp only [in_isTool, in_isTwo]
  rcases wi_c a1 (M := 3) (m := 3) rfl (by decide) with h1 | ⟨t, ht, rfl, h1⟩
  · exact ⟨-2, σx, σm, by rw [if_pos h1], by rw [if_pos h1], hR⟩
  rcases wi_01 a2 with h2 | ⟨rfl, h2⟩ | ⟨rfl, h2⟩
  · exact ⟨-2, σx, σm, by simp only [h1, if10]; rw [if_pos h2], by simp only [h1, if10]; rw [if_pos h2], hR⟩
  · have e60 : zX10_in a3.toInt64 ((1 - (0 : Int32)).toInt64) 60 = zX9_within a3 1 60 := in_1_60 a3
    rcases wi_c1 a3 (M := 60) (m := 60) rfl (by decide) with h3 | ⟨v, hv1, hv, rfl, h3⟩
    · exact ⟨-2, σx, σm, by simp only [h1, h2, h3, if10, if00, if_true, if_false], by simp only [h1, h2, if10, if00, if_true, if_false, Option.bind_some, e60, h3], hR⟩
    · refine ⟨σx 10 t, fr_put (fr_put σx 10 t (nI v)) 0 8 1, fr_put (fr_put σm 11 t (nI v)) 12 t (fr_put σm 11 t (nI v) 12 t), ?_, ?_, ?_⟩
      · simp only [h1, h2, h3, if10, if00, if_true, if_false, fr_al_nI (n := 4) (show t < 4 by omega) (by decide), fr_as_nI (n := 4) (show t < 4 by omega) (by decide), Option.bind_some]
      · simp only [h1, h2, h3, e60, if10, if00, if_true, if_false, if01, fr_al_nI (n := 4) (show t < 4 by omega) (by decide), fr_as_nI (n := 4) (show t < 4 by omega) (by decide), Option.bind_some]
        rw [hx.2.2.2.1 t (by omega), hm.2.2.1 t (by omega)]
      · have hm12 : ∀ q, (fr_put (fr_put σm 11 t (nI v)) 12 t (fr_put σm 11 t (nI v) 12 t)) q = fr_put σm 11 t (nI v) q := by
          intro q
          simp only [fr_put_at]
          by_cases e : q = 12
          · subst e
            simp
            funext j
            simp only [upd_at]
            by_cases e : j = t
            · simp [e]
            · simp [e]
          · simp [e]
        refine ⟨nup ν 11 t v, ⟨hn.1, hn.2.1, ?_, hn.2.2.2.1, hn.2.2.2.2⟩, ⟨hx.1, hx.2.1, hx.2.2.1, row_up hx.2.2.2.1, hx.2.2.2.2⟩, ?_, ?_, hd, Or.inl rfl, ?_⟩
        · intro j hj
          show 1 ≤ (if j = t then v else ν 11 j) ∧ (if j = t then v else ν 11 j) ≤ 60
          split
          · exact ⟨hv1, hv⟩
          · exact hn.2.2.1 j hj
        · refine mb_rows (σ := fr_put σm 11 t (nI v)) ⟨hm.1, hm.2.1, row_up hm.2.2.1, hm.2.2.2⟩ (fun q _ => hm12 q) (by rw [hm12]) (by rw [hm12])
        · exact shr_m (shr_x hs (fun q h1 h2 => by simp only [fr_put_at]; rw [if_neg (by omega), if_neg (by omega)])) (fun q hq => by rw [hm12]; simp only [fr_put_at]; rw [if_neg (by rintro rfl; revert hq; decide)])
        · show σx 0 9 = _
          rw [hf, hm12]; rfl
  · have e99 : zX10_in a3.toInt64 ((1 - (1 : Int32)).toInt64) 99 = zX9_within a3 0 99 := in_0_99 a3
    rcases wi_c a3 (M := 99) (m := 99) rfl (by decide) with h3 | ⟨v, hv, rfl, h3⟩
    · exact ⟨-2, σx, σm, by simp only [h1, h2, h3, if10, if00, if_true, if_false], by simp only [h1, h2, if10, if00, if_true, if_false, Option.bind_some, e99, h3], hR⟩
    · refine ⟨σx 11 t, fr_put (fr_put σx 11 t (nI v)) 0 8 1, fr_put (fr_put σm 11 t (σm 11 t)) 12 t (nI v), ?_, ?_, ?_⟩
      · simp only [h1, h2, h3, if10, if00, if_true, if_false, fr_al_nI (n := 4) (show t < 4 by omega) (by decide), fr_as_nI (n := 4) (show t < 4 by omega) (by decide), Option.bind_some]
      · simp only [h1, h2, h3, e99, if10, if00, if_true, if_false, if11, fr_al_nI (n := 4) (show t < 4 by omega) (by decide), fr_as_nI (n := 4) (show t < 4 by omega) (by decide), Option.bind_some]
        rw [hx.2.2.2.2.1 t (by omega), hm.2.2.2.1 t (by omega)]
      · have hm11 : fr_put σm 11 t (σm 11 t) = σm := by
          funext q j
          simp only [fr_put_at]
          by_cases e : q = 11
          · subst e
            simp only [if_true, upd_at]
            by_cases e : j = t
            · simp [e]
            · simp [e]
          · simp [e]
        rw [hm11]
        refine ⟨nup ν 12 t v, ⟨hn.1, hn.2.1, hn.2.2.1, up_le hn.2.2.2.1 hv, hn.2.2.2.2⟩, ⟨hx.1, hx.2.1, hx.2.2.1, hx.2.2.2.1, row_up hx.2.2.2.2.1, hx.2.2.2.2.2⟩, ⟨hm.1, hm.2.1, hm.2.2.1, row_up hm.2.2.2.1, hm.2.2.2.2⟩, ?_, hd, Or.inl rfl, hf⟩
        exact shr_m (shr_x hs (fun q h1 h2 => by simp only [fr_put_at]; rw [if_neg (by omega), if_neg (by omega)])) (fun q hq => by simp only [fr_put_at]; rw [if_neg (by rintro rfl; revert hq; decide)])
theorem ok_looks : sm_looks Rl := by
  rintro σx σm a1 a2 a3 ⟨ν, hn, hx, hm, hs, hd, ho, hf⟩
  have hR : Rl σx σm := ⟨ν, hn, hx, hm, hs, hd, ho, hf⟩
  unfold zX9_looks zX10_looks zX9_isKind zX9_isCell
  simp only [in_isCell, in_0_4, in_0_9]
  rcases wi_c a1 (M := 4) (m := 4) rfl (by decide) with h1 | ⟨k, hk, rfl, h1⟩
  · exact ⟨-2, σx, σm, by rw [if_pos h1], by rw [if_pos h1], hR⟩
  rcases wi_c a2 (M := 31) (m := 31) rfl (by decide) with h2 | ⟨c, hc, rfl, h2⟩
  · exact ⟨-2, σx, σm, by simp only [h1, if10]; rw [if_pos h2], by simp only [h1, if10]; rw [if_pos h2], hR⟩
  rcases wi_c a3 (M := 9) (m := 9) rfl (by decide) with h3 | ⟨v, hv, rfl, h3⟩
  · exact ⟨-2, σx, σm, by simp only [h1, h2, if10]; rw [if_pos h3], by simp only [h1, h2, if10]; rw [if_pos h3], hR⟩
  have ex : nI k * 32 + nI c = nI (32 * k + c) := by
    rw [show (32 : Int32) = nI 32 from rfl, pk_mul, nI_add, Nat.mul_comm]
  have em : 32 * nI k + nI c = nI (32 * k + c) := by
    rw [show (32 : Int32) = nI 32 from rfl, pk_mul, nI_add]
  have hlt : 32 * k + c < 160 := by omega
  refine ⟨σx 13 (32 * k + c), fr_put (fr_put σx 13 (32 * k + c) (nI v)) 0 8 1, fr_put σm 13 (32 * k + c) (nI v), ?_, ?_, ?_⟩
  · unfold zX8_at zX8_put zX9_isKind zX9_isCell
    simp only [h1, h2, h3, if10, ex, fr_al_nI hlt (by decide), fr_as_nI hlt (by decide), Option.bind_some]
  · simp only [h1, h2, h3, if10, em, fr_al_nI hlt (by decide), fr_as_nI hlt (by decide), Option.bind_some]
    rw [hx.2.2.2.2.2.1 _ hlt, hm.2.2.2.2.1 _ hlt]
  · refine ⟨nup ν 13 (32 * k + c) v, ⟨hn.1, hn.2.1, hn.2.2.1, hn.2.2.2.1, up_le hn.2.2.2.2.1 hv, hn.2.2.2.2.2⟩, ⟨hx.1, hx.2.1, hx.2.2.1, hx.2.2.2.1, hx.2.2.2.2.1, row_up hx.2.2.2.2.2.1, hx.2.2.2.2.2.2⟩, ⟨hm.1, hm.2.1, hm.2.2.1, hm.2.2.2.1, row_up hm.2.2.2.2.1, hm.2.2.2.2.2⟩, ?_, hd, Or.inl rfl, hf⟩
    exact shr_m (shr_x hs (fun q h1 h2 => by simp only [fr_put_at]; rw [if_neg (by omega), if_neg (by omega)])) (fun q hq => by simp only [fr_put_at]; rw [if_neg (by rintro rfl; revert hq; decide)])
theorem ok_back : sm_back Rl := by
  rintro σx σm ⟨ν, hn, hx, hm, hs, hd, ho, hf⟩
  have hR : Rl σx σm := ⟨ν, hn, hx, hm, hs, hd, ho, hf⟩
  unfold zX9_back zX10_back
  have e1 : σx 14 2 = nI (ν 0 19) := hx.2.2.2.2.2.2.1
  have e2 : σm 0 19 = nI (ν 0 19) := hm.2.2.2.2.2.1
  have h40 : ν 0 19 ≤ 40 := hn.2.2.2.2.2.1
  rw [e1, e2]
  by_cases h : ν 0 19 = 0
  · refine ⟨-3, σx, σm, ?_, ?_, hR⟩
    · rw [if_neg (by rw [nI_lt0 (by omega)]; omega)]
    · rw [if_pos (by rw [h]; rfl)]
  · obtain ⟨n, hn19⟩ : ∃ n, ν 0 19 = n + 1 := ⟨ν 0 19 - 1, by omega⟩
    have e3 : nI (ν 0 19) - 1 = nI n := by rw [hn19]; exact nI_pred n
    refine ⟨nI n, fr_put (fr_put σx 14 2 (nI n)) 0 8 1, fr_put σm 0 19 (nI n), ?_, ?_, ?_⟩
    · rw [if_pos (by rw [nI_lt0 (by omega)]; omega), e3]; rfl
    · rw [if_neg (by rw [nI_eq0 (by omega)]; exact h), e3]; rfl
    · refine ⟨nup ν 0 19 n, ⟨hn.1, hn.2.1, hn.2.2.1, hn.2.2.2.1, hn.2.2.2.2.1, (by show n ≤ 40; omega), hn.2.2.2.2.2.2⟩, ⟨hx.1, hx.2.1, hx.2.2.1, hx.2.2.2.1, hx.2.2.2.2.1, hx.2.2.2.2.2.1, rfl, hx.2.2.2.2.2.2.2⟩, ⟨hm.1, hm.2.1, hm.2.2.1, hm.2.2.2.1, hm.2.2.2.2.1, rfl, hm.2.2.2.2.2.2⟩, ?_, hd, Or.inl rfl, hf⟩
      exact shr_m (shr_x hs (fun q h1 h2 => by simp only [fr_put_at]; rw [if_neg (by omega), if_neg (by omega)])) (fun q hq => by simp only [fr_put_at]; rw [if_neg (by rintro rfl; revert hq; decide)])
theorem ok_stroke : sm_stroke Rl := by
  rintro σx σm a1 a2 ⟨ν, hn, hx, hm, hs, hd, ho, hf⟩
  have hR : Rl σx σm := ⟨ν, hn, hx, hm, hs, hd, ho, hf⟩
  unfold zX9_stroke zX10_stroke zX9_isTool zX9_isCell
  simp only [in_isCell, in_isTool]
  rcases wi_c a1 (M := 3) (m := 3) rfl (by decide) with h1 | ⟨t, ht, rfl, h1⟩
  · exact ⟨-2, σx, σm, by rw [if_pos h1], by rw [if_pos h1], hR⟩
  rcases wi_c a2 (M := 31) (m := 31) rfl (by decide) with h2 | ⟨c, hc, rfl, h2⟩
  · exact ⟨-2, σx, σm, by simp only [h1, if10]; rw [if_pos h2], by simp only [h1, if10]; rw [if_pos h2], hR⟩
  have e1 : σx 14 2 = nI (ν 0 19) := hx.2.2.2.2.2.2.1
  have e2 : σm 0 19 = nI (ν 0 19) := hm.2.2.2.2.2.1
  have h40 : ν 0 19 ≤ 40 := hn.2.2.2.2.2.1
  simp only [h1, h2, if10, e1, e2]
  by_cases h : ν 0 19 = 40
  · refine ⟨-4, σx, σm, ?_, ?_, hR⟩
    · rw [if_neg (by rw [show (40 : Int32) = nI 40 from rfl, nI_ltI (by omega) (by decide)]; omega)]
    · rw [if_pos (by rw [h]; rfl)]
  · generalize hN : ν 0 19 = n at *
    have hn40 : n < 40 := by omega
    have em1 : 2 * nI n = nI (2 * n) := by rw [show (2 : Int32) = nI 2 from rfl, pk_mul]
    refine ⟨nI (n + 1), fr_put (fr_put (fr_put (fr_put σx 15 n (nI t)) 16 n (nI c)) 14 2 (nI (n + 1))) 0 8 1, fr_put (fr_put (fr_put σm 14 (2 * n) (nI t)) 14 (2 * n + 1) (nI c)) 0 19 (nI (n + 1)), ?_, ?_, ?_⟩
    · unfold zX7_append
      rw [if_pos (by rw [show (40 : Int32) = nI 40 from rfl, nI_ltI (by omega) (by decide)]; omega), e1, if_neg (by rw [show (40 : Int32) = nI 40 from rfl, nI_leI (by decide) (by omega)]; omega), fr_as_nI hn40 (by decide), Option.bind_some]
      rw [show (fr_put σx 15 n (nI t)) 14 2 = nI n from e1, fr_as_nI hn40 (by decide), Option.bind_some, Option.bind_some]
      rw [show (fr_put (fr_put σx 15 n (nI t)) 16 n (nI c)) 14 2 = nI n from e1, nI_1]
      rfl
    · rw [if_neg (by rw [show (40 : Int32) = nI 40 from rfl, nI_eq (by omega) (by decide)]; exact h), em1, fr_as_nI (by omega) (by decide), Option.bind_some]
      rw [show (fr_put σm 14 (2 * n) (nI t)) 0 19 = nI n from e2, em1, nI_1, fr_as_nI (by omega) (by decide), Option.bind_some]
      rw [show (fr_put (fr_put σm 14 (2 * n) (nI t)) 14 (2 * n + 1) (nI c)) 0 19 = nI n from e2, nI_1]
      rfl
    · refine ⟨nup (nup (nup ν 14 (2 * n) t) 14 (2 * n + 1) c) 0 19 (n + 1), ⟨hn.1, hn.2.1, hn.2.2.1, hn.2.2.2.1, hn.2.2.2.2.1, (by show n + 1 ≤ 40; omega), ?_, hn.2.2.2.2.2.2.2⟩, ⟨hx.1, hx.2.1, hx.2.2.1, hx.2.2.2.1, hx.2.2.2.2.1, hx.2.2.2.2.2.1, rfl, ?_, hx.2.2.2.2.2.2.2.2⟩, ⟨hm.1, hm.2.1, hm.2.2.1, hm.2.2.2.1, hm.2.2.2.2.1, rfl, row_up (row_up hm.2.2.2.2.2.2.1), hm.2.2.2.2.2.2.2⟩, ?_, hd, Or.inl rfl, hf⟩
      · intro i hi
        have h0 := hn.2.2.2.2.2.2.1 i hi
        show (if 2 * i = 2 * n + 1 then c else if 2 * i = 2 * n then t else ν 14 (2 * i)) < 4 ∧ (if 2 * i + 1 = 2 * n + 1 then c else if 2 * i + 1 = 2 * n then t else ν 14 (2 * i + 1)) < 32
        rw [if_neg (by omega : ¬ 2 * i = 2 * n + 1), if_neg (by omega : ¬ 2 * i + 1 = 2 * n)]
        constructor
        · split
          · omega
          · exact h0.1
        · split
          · omega
          · exact h0.2
      · intro i hi
        have h0 := hx.2.2.2.2.2.2.2.1 i hi
        show (if i = n then nI t else σx 15 i) = nI (if 2 * i = 2 * n + 1 then c else if 2 * i = 2 * n then t else ν 14 (2 * i)) ∧ (if i = n then nI c else σx 16 i) = nI (if 2 * i + 1 = 2 * n + 1 then c else if 2 * i + 1 = 2 * n then t else ν 14 (2 * i + 1))
        rw [if_neg (by omega : ¬ 2 * i = 2 * n + 1), if_neg (by omega : ¬ 2 * i + 1 = 2 * n)]
        by_cases e : i = n
        · subst e; simp
        · rw [if_neg e, if_neg e, if_neg (by omega), if_neg (by omega)]; exact h0
      · exact shr_m (shr_x hs (fun q h1 h2 => by simp only [fr_put_at]; rw [if_neg (by omega), if_neg (by omega), if_neg (by omega), if_neg (by omega)])) (fun q hq => by simp only [fr_put_at]; rw [if_neg (by rintro rfl; revert hq; decide), if_neg (by rintro rfl; revert hq; decide), if_neg (by rintro rfl; revert hq; decide)])
