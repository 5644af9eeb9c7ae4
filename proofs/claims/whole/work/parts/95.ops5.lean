/-! judged, left, all -/
theorem mo_t9 {g : Nat → Option Nat} {hol sk : Nat → Nat} {i : Nat} (hg : ∀ c, (g c).getD 0 ≤ 9) : mo_t g hol sk i ≤ 9 := by
  unfold mo_t
  split
  · exact Nat.le_trans ((mo_le i).1 _) (hg _)
  · exact Nat.zero_le _
theorem mo_f_up {f : Nat → Nat} {k i : Nat} (h : mo_f f k = some i) : ∀ m, k ≤ m → mo_f f m = some i
  | 0, hm => by have : k = 0 := by omega
                subst this; exact h
  | m + 1, hm => by
    by_cases e : k = m + 1
    · rw [← e]; exact h
    · unfold mo_f
      rw [mo_f_up h m (by omega)]; rfl
theorem x_first {f : Nat → Nat} {n : Nat} {σ : fr_St} (hn : n ≤ 40) (hf : ∀ i, i < n → f i ≤ 9) (h18 : ∀ i, i < n → σ 18 i = nI (f i)) : zX1_firstNotDone σ (nI n) = some (oI (mo_f f n)) := by
  unfold zX1_firstNotDone
  obtain ⟨z, hz, hQ⟩ := lp_fu (body := fun (b1 : Int32) => zX1_firstNotDone_L2 σ (nI n) b1)
    (fun i b => b = nI i ∧ mo_f f i = none)
    (fun z => (∃ i, z = .inl (nI i) ∧ mo_f f n = some i) ∨ (z = .inr () ∧ mo_f f n = none)) n (by omega)
    (fun i b hi hI => by
      obtain ⟨rfl, h⟩ := hI
      unfold zX1_firstNotDone_L2
      rw [if_neg (nI_ge hi (by omega)), if_neg (show ¬ 40 ≤ nI i from nI_ge (b := 40) (by omega) (by decide)), fr_al_nI (show i < 40 by omega) (by decide), Option.bind_some, h18 i hi]
      have h1 : mo_f f (i + 1) = if f i = 0 then some i else none := by
        show (mo_f f i).or _ = _
        rw [h]; rfl
      by_cases e : f i = 0
      · rw [if_pos (by rw [e]; rfl)]
        rw [if_pos e] at h1
        exact Or.inr ⟨_, rfl, Or.inl ⟨i, rfl, mo_f_up h1 n (by omega)⟩⟩
      · rw [if_neg (nI_ne0 (by omega) (by have := hf i hi; omega))]
        rw [if_neg e] at h1
        exact Or.inl ⟨_, rfl, nI_1 i, h1⟩)
    (fun b hI => by
      obtain ⟨rfl, h⟩ := hI
      unfold zX1_firstNotDone_L2
      rw [if_pos (nI_le (Nat.le_refl _) (by omega))]
      exact ⟨_, rfl, Or.inr ⟨rfl, h⟩⟩)
    0 0 (by omega) ⟨rfl, rfl⟩
  rw [hz, Option.bind_some]
  rcases hQ with ⟨i, rfl, h⟩ | ⟨rfl, h⟩
  · rw [h]; rfl
  · rw [h]; rfl
theorem ok_judged : sm_judged Rl := by
  rintro σx σm ⟨ν, hn, hx, hm, hs, hd, ho, hf⟩
  obtain ⟨σ', e, hR, hq⟩ := settled hn hx hm hs hd ho hf
  obtain ⟨σ2, e2, ht, hsc⟩ := ms_scrapes (k := ν 0 19) hn hm hn.2.2.2.2.2.1
  obtain ⟨g, th, lf, h, rfl, rfl, rfl, rfl, m18, m19, m20, m21, m6, m22, m7, m23⟩ := hR.2.2.2.2.2.1
  refine ⟨oI (mo_f (mo_t (pn (ν 5) (ν 6 0)).2.2.2 (ν 12) (ν 14)) (ν 0 19)), σ', σ2, ?_, ?_, Rs_Rl (Rs_sc hR hsc)⟩
  · unfold zX9_judged
    rw [e, Option.bind_some]
    dsimp only
    rw [hR.2.1.2.2.2.2.2.2.1, x_first hn.2.2.2.2.2.1 (fun i _ => mo_t9 (fun c => pn_g9)) m18, Option.bind_some]
  · unfold zX10_judged zX10_scrapesAll
    rw [hm.2.2.2.2.2.1, e2, Option.bind_some, Option.bind_some, ht.2.2.2.2.2.2.2.2.2]
theorem ok_left : sm_left Rl := by
  rintro σx σm a1 ⟨ν, hn, hx, hm, hs, hd, ho, hf⟩
  have hR0 : Rl σx σm := ⟨ν, hn, hx, hm, hs, hd, ho, hf⟩
  obtain ⟨σ2, e2, ht, hsc⟩ := ms_scrapes (k := ν 0 19) hn hm hn.2.2.2.2.2.1
  unfold zX9_left zX10_left zX10_scrapesAll zX9_isTool
  rw [hm.2.2.2.2.2.1, e2, Option.bind_some, Option.bind_some, in_isTool]
  rcases wi_c a1 (M := 3) (m := 3) rfl (by decide) with h1 | ⟨t, ht4, rfl, h1⟩
  · exact ⟨-2, σx, σ2, by rw [if_pos h1], by rw [if_pos h1], Rl_sc hR0 hsc⟩
  obtain ⟨σ', e, hR, hq⟩ := settled hn hx hm hs hd ho hf
  obtain ⟨g, th, lf, h, rfl, rfl, rfl, rfl, m18, m19, m20, m21, m6, m22, m7, m23⟩ := hR.2.2.2.2.2.1
  refine ⟨nI ((mo_s (pn (ν 5) (ν 6 0)).2.2.2 (ν 12) (ν 14) (ν 0 19)).2 t), σ', σ2, ?_, ?_, Rs_Rl (Rs_sc hR hsc)⟩
  · rw [h1, if10, e, Option.bind_some]
    dsimp only
    rw [fr_al_nI (show t < 4 by omega) (by decide), Option.bind_some, m20 t (by omega)]
  · rw [h1, if10, fr_al_nI (show t < 4 by omega) (by decide), Option.bind_some, ht.2.2.2.2.2.2.1 t (by omega)]
theorem m_all {σ : fr_St} {th : Nat → Nat} {t s : Nat} (ht : t < 4) (h9 : ∀ c, c < 32 → σ 9 c = nI (th c)) (h11 : σ 11 t = nI s) : zX10_allOf σ (nI t) = some (nI (su th 32 * s)) := by
  unfold zX10_allOf
  have h := lp_seq (body := fun (b1 : Int32 × Int32) => zX10_allOf_L4 σ (nI t) b1.1 b1.2) (fun i => (nI (su th i * s), nI i)) 32 (nI (su th 32 * s)) (by omega) (fun i hi => by
      show zX10_allOf_L4 σ (nI t) (nI (su th i * s)) (nI i) = _
      unfold zX10_allOf_L4
      rw [if_neg (show ¬ 32 ≤ nI i from nI_ge (b := 32) hi (by decide)), fr_al_nI hi (by decide), Option.bind_some, fr_al_nI ht (by decide), Option.bind_some, h9 i hi, h11, pk_mul, nI_add, nI_1, ← Nat.add_mul]
      rfl) (by
      show zX10_allOf_L4 σ (nI t) (nI (su th 32 * s)) (nI 32) = _
      unfold zX10_allOf_L4
      rw [if_pos (by decide)]) 0 (by omega)
  rw [show ((nI (su th 0 * s), nI 0) : Int32 × Int32) = (0, 0) by rw [show su th 0 = 0 from rfl, Nat.zero_mul]; rfl] at h
  rw [h, Option.bind_some]
theorem ok_all : sm_all Rl := by
  rintro σx σm a1 ⟨ν, hn, hx, hm, hs, hd, ho, hf⟩
  have hR0 : Rl σx σm := ⟨ν, hn, hx, hm, hs, hd, ho, hf⟩
  obtain ⟨σ2, e2, ht, hsc⟩ := ms_scrapes (k := ν 0 19) hn hm hn.2.2.2.2.2.1
  unfold zX9_all zX10_all zX10_scrapesAll zX9_isTool
  rw [hm.2.2.2.2.2.1, e2, Option.bind_some, Option.bind_some, in_isTool]
  rcases wi_c a1 (M := 3) (m := 3) rfl (by decide) with h1 | ⟨t, ht4, rfl, h1⟩
  · exact ⟨-2, σx, σ2, by rw [if_pos h1], by rw [if_pos h1], Rl_sc hR0 hsc⟩
  obtain ⟨σ', e, hR, hq⟩ := settled hn hx hm hs hd ho hf
  obtain ⟨g, th, lf, h, rfl, rfl, rfl, rfl, m18, m19, m20, m21, m6, m22, m7, m23⟩ := hR.2.2.2.2.2.1
  refine ⟨nI (su (mo_s (pn (ν 5) (ν 6 0)).2.2.2 (ν 12) (ν 14) (ν 0 19)).1 32 * ν 11 t), σ', σ2, ?_, ?_, Rs_Rl (Rs_sc hR hsc)⟩
  · rw [h1, if10, e, Option.bind_some]
    dsimp only
    rw [fr_al_nI (show t < 4 by omega) (by decide), Option.bind_some, m7, hR.2.1.2.2.2.1 t (by omega), pk_mul]
  · rw [h1, if10, m_all (show t < 4 by omega) ht.2.2.2.2.2.1 ((mb_sc hm hsc).2.2.1 t (by omega)), Option.bind_some]
