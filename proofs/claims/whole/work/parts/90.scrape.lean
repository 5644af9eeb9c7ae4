/-! the morning: what the class scrapes -/
theorem pn_9 {T : Nat → Nat} : ∀ (k i r c w : Nat) (g : Nat → Option Nat), (∀ j v, g j = some v → v ≤ 9) → ∀ j v, (pn_lp T k i r c w g).2.2.2 j = some v → v ≤ 9
  | 0, i, r, c, w, g, hg, j, v => by
    simp only [pn_lp]
    intro h
    split at h
    · exact hg j v h
    · split at h
      · exact hg j v h
      · simp at h
  | k + 1, i, r, c, w, g, hg, j, v => by
    simp only [pn_lp]
    intro h
    split at h
    · split at h
      · exact pn_9 k _ _ _ _ g hg j v h
      · simp at h
    · split at h
      · rename_i h1
        refine pn_9 k _ _ _ _ _ (fun j v hj => ?_) j v h
        unfold upO at hj
        by_cases e : j = 8 * r + c
        · rw [if_pos e] at hj; simp at hj; omega
        · rw [if_neg e] at hj; exact hg j v hj
      · simp at h
theorem pn_c9 {T : Nat → Nat} {n c v : Nat} (h : (pn T n).2.2.2 c = some v) : v ≤ 9 := pn_9 n 0 0 0 8 (fun _ => none) (fun _ _ h => by simp at h) c v h
theorem pn_g9 {T : Nat → Nat} {n c : Nat} : ((pn T n).2.2.2 c).getD 0 ≤ 9 := by
  cases h : (pn T n).2.2.2 c with
  | none => exact Nat.zero_le _
  | some v => exact pn_c9 h
theorem mo_le {g : Nat → Option Nat} {hol sk : Nat → Nat} : ∀ k, (∀ c, (mo_s g hol sk k).1 c ≤ (g c).getD 0) ∧ ∀ t, (mo_s g hol sk k).2 t ≤ hol t
  | 0 => ⟨fun _ => Nat.le_refl _, fun _ => Nat.le_refl _⟩
  | k + 1 => by
    obtain ⟨h1, h2⟩ := mo_le (g := g) (hol := hol) (sk := sk) k
    simp only [mo_s]
    split
    · refine ⟨fun c => ?_, fun t => ?_⟩
      · show (if c = sk (2 * k + 1) then 0 else (mo_s g hol sk k).1 c) ≤ _
        split
        · exact Nat.zero_le _
        · exact h1 c
      · show (if t = sk (2 * k) then (mo_s g hol sk k).2 (sk (2 * k)) - (mo_s g hol sk k).1 (sk (2 * k + 1)) else (mo_s g hol sk k).2 t) ≤ _
        split
        · rename_i e
          rw [e]
          exact Nat.le_trans (Nat.sub_le _ _) (h2 _)
        · exact h2 t
    · exact ⟨h1, h2⟩
theorem mo_0 {g : Nat → Option Nat} {hol sk : Nat → Nat} {k c : Nat} (h : g c = none) : (mo_s g hol sk k).1 c = 0 := by
  have := (mo_le (g := g) (hol := hol) (sk := sk) k).1 c
  rw [h] at this
  exact Nat.le_zero.mp this
/-- how the class keeps a thickness -/
def oT (g : Nat → Option Nat) (th : Nat → Nat) (c : Nat) : Int32 := if g c = none then -1 else nI (th c)
theorem oT_le {g : Nat → Option Nat} {th : Nat → Nat} {c : Nat} (h : g c = none → th c = 0) (h9 : th c ≤ 9) : oT g th c ≤ 0 ↔ ¬ 0 < th c := by
  unfold oT
  by_cases hn : g c = none
  · rw [if_pos hn, h hn]; decide
  · rw [if_neg hn, nI_le0 (by omega)]; omega
theorem oT_nI {g : Nat → Option Nat} {th : Nat → Nat} {c : Nat} (h : g c = none → th c = 0) (h0 : 0 < th c) : oT g th c = nI (th c) := by
  unfold oT
  rw [if_neg (fun hn => by have := h hn; omega)]
def fxs (σ σ' : fr_St) : Prop := ∀ q, q ≠ 18 → q ≠ 19 → q ≠ 20 → σ' q = σ q
theorem xs_scrape {g : Nat → Option Nat} {hol sk : Nat → Nat} {n : Nat} {σ : fr_St} (hg : ∀ c, (g c).getD 0 ≤ 9) (hh : ∀ t, t < 4 → hol t ≤ 99) (hsk : ∀ i, i < 40 → sk (2 * i) < 4 ∧ sk (2 * i + 1) < 32) (hn : n ≤ 40)
    (h6 : ∀ c, c < 32 → σ 6 c = oI (g c)) (h11 : ∀ t, t < 4 → σ 11 t = nI (hol t)) (h14 : σ 14 2 = nI n) (h15 : ∀ i, i < 40 → σ 15 i = nI (sk (2 * i)) ∧ σ 16 i = nI (sk (2 * i + 1))) :
    ∃ σ', zX1_scrape σ = some σ' ∧ (∀ i, i < n → σ' 18 i = nI (mo_t g hol sk i)) ∧ (∀ c, c < 32 → σ' 19 c = oT g (mo_s g hol sk n).1 c) ∧ (∀ t, t < 4 → σ' 20 t = nI ((mo_s g hol sk n).2 t)) ∧ fxs σ σ' := by
  unfold zX1_scrape
  rw [show fr_cp 32 32 σ 6 0 19 0 32 = some (fr_row σ 19 (va_cpy (σ 6) (σ 19) 0 0 32)) from if_pos (by decide), Option.bind_some]
  rw [show fr_cp 4 4 (fr_row σ 19 (va_cpy (σ 6) (σ 19) 0 0 32)) 11 0 20 0 4 = some (fr_row (fr_row σ 19 (va_cpy (σ 6) (σ 19) 0 0 32)) 20 (va_cpy (σ 11) (σ 20) 0 0 4)) from if_pos (by decide), Option.bind_some]
  obtain ⟨z, hz, h18, h19, h20, hf⟩ := lp_fu (body := fun (b3 : Int32 × fr_St) => zX1_scrape_L32 b3.1 b3.2)
    (fun i b => ∃ σ', b = (nI i, σ') ∧ (∀ j, j < i → σ' 18 j = nI (mo_t g hol sk j)) ∧ (∀ c, c < 32 → σ' 19 c = oT g (mo_s g hol sk i).1 c) ∧ (∀ t, t < 4 → σ' 20 t = nI ((mo_s g hol sk i).2 t)) ∧ fxs σ σ')
    (fun σ' => (∀ i, i < n → σ' 18 i = nI (mo_t g hol sk i)) ∧ (∀ c, c < 32 → σ' 19 c = oT g (mo_s g hol sk n).1 c) ∧ (∀ t, t < 4 → σ' 20 t = nI ((mo_s g hol sk n).2 t)) ∧ fxs σ σ') n (by omega)
    (fun i b hi hI => by
      obtain ⟨σ', rfl, h18, h19, h20, hf⟩ := hI
      left
      show ∃ b', zX1_scrape_L32 (nI i) σ' = _ ∧ _
      unfold zX1_scrape_L32 zX9_isTool zX9_isCell
      obtain ⟨ht, hc⟩ := hsk i (by omega)
      obtain ⟨e15, e16⟩ := h15 i (by omega)
      have hle := (mo_le (g := g) (hol := hol) (sk := sk) i)
      have emt : mo_t g hol sk i = if 0 < (mo_s g hol sk i).1 (sk (2 * i + 1)) ∧ (mo_s g hol sk i).1 (sk (2 * i + 1)) ≤ (mo_s g hol sk i).2 (sk (2 * i)) then (mo_s g hol sk i).1 (sk (2 * i + 1)) else 0 := rfl
      have ems : mo_s g hol sk (i + 1) = if 0 < (mo_s g hol sk i).1 (sk (2 * i + 1)) ∧ (mo_s g hol sk i).1 (sk (2 * i + 1)) ≤ (mo_s g hol sk i).2 (sk (2 * i)) then (upN (mo_s g hol sk i).1 (sk (2 * i + 1)) 0, upN (mo_s g hol sk i).2 (sk (2 * i)) ((mo_s g hol sk i).2 (sk (2 * i)) - (mo_s g hol sk i).1 (sk (2 * i + 1)))) else mo_s g hol sk i := rfl
      have h0 : ∀ c, g c = none → (mo_s g hol sk i).1 c = 0 := fun c h => mo_0 h
      rw [ems]
      generalize sk (2 * i) = t at *
      generalize sk (2 * i + 1) = c at *
      generalize mo_s g hol sk i = S at *
      obtain ⟨th, lf⟩ := S
      dsimp only at hle emt ems h0 h19 h20 ⊢
      have hth : th c ≤ 9 := Nat.le_trans (hle.1 c) (hg c)
      have hlf : lf t ≤ 99 := Nat.le_trans (hle.2 t) (hh t ht)
      rw [hf 14 (by decide) (by decide) (by decide), h14, if_neg (nI_ge hi (by omega)), if_neg (show ¬ 40 ≤ nI i from nI_ge (b := 40) (by omega) (by decide)), fr_al_nI (show i < 40 by omega) (by decide), Option.bind_some, fr_al_nI (show i < 40 by omega) (by decide), Option.bind_some, fr_as_nI (show i < 40 by omega) (by decide), Option.bind_some, hf 15 (by decide) (by decide) (by decide), hf 16 (by decide) (by decide) (by decide), e15, e16, show zX9_within (nI t) 0 3 = 1 from wi_nI (m := 3) (by omega) (by decide), show zX9_within (nI c) 0 31 = 1 from wi_nI (m := 31) (by omega) (by decide), if10, if10, fr_al_nI hc (by decide), Option.bind_some, Option.bind_some, fr_al_nI ht (by decide), Option.bind_some]
      have r19 : (fr_put σ' 18 i 0) 19 c = oT g th c := h19 c hc
      have r20 : (fr_put σ' 18 i 0) 20 t = nI (lf t) := h20 t ht
      have hz0 : (0 : Int32) = nI 0 := rfl
      by_cases hd : 0 < th c ∧ th c ≤ lf t
      · rw [if_pos hd] at emt
        rw [r19, r20, oT_nI (h0 c) hd.1, if_neg (nI_nle hd.1 (by omega)), if_neg (nI_nlt hd.2 (by omega)), Option.bind_some, fr_as_nI (show i < 40 by omega) (by decide), Option.bind_some, fr_al_nI ht (by decide), Option.bind_some, fr_al_nI hc (by decide), Option.bind_some, fr_as_nI ht (by decide), Option.bind_some, fr_as_nI hc (by decide), Option.bind_some, if_pos hd]
        rw [show (fr_put (fr_put σ' 18 i 0) 18 i (nI (th c))) 20 t = nI (lf t) from h20 t ht, show (fr_put (fr_put σ' 18 i 0) 18 i (nI (th c))) 19 c = nI (th c) from (h19 c hc).trans (oT_nI (h0 c) hd.1), pk_sub hd.2]
        refine ⟨_, rfl, _, by rw [nI_1], fun j hj => ?_, fun c' hc' => ?_, fun t' ht' => ?_, fun q a b d => ?_⟩
        · by_cases e : j = i
          · subst e; rw [emt]; simp [fr_put_at, upd_at]
          · have := h18 j (by omega)
            simpa [fr_put_at, upd_at, e] using this
        · have := h19 c' hc'
          unfold oT upN at *
          dsimp only
          by_cases e : c' = c
          · have hne : g c' ≠ none := fun h => by have := h0 c' h; rw [e] at this; omega
            rw [if_neg hne, if_pos e]
            simp [fr_put_at, upd_at, e, nI_0]
          · rw [if_neg e, ← this]
            simp [fr_put_at, upd_at, e]
        · have := h20 t' ht'
          unfold upN
          dsimp only
          by_cases e : t' = t
          · rw [if_pos e]; simp [fr_put_at, upd_at, e]
          · rw [if_neg e, ← this]; simp [fr_put_at, upd_at, e]
        · simp only [fr_put_at]
          rw [if_neg b, if_neg d, if_neg a, if_neg a]
          exact hf q a b d
      · rw [if_neg hd] at emt
        refine ⟨(nI (i + 1), fr_put σ' 18 i 0), ?_, _, rfl, fun j hj => ?_, ?_, ?_, fun q a b d => ?_⟩
        · rw [r19, r20, nI_1]
          by_cases h1 : 0 < th c
          · rw [oT_nI (h0 c) h1, if_neg (nI_nle h1 (by omega)), if_pos (nI_lt (by omega) (by omega))]
          · rw [if_pos ((oT_le (h0 c) hth).mpr h1)]
        · by_cases e : j = i
          · subst e; rw [emt]; simp [fr_put_at, upd_at, nI_0]
          · have := h18 j (by omega)
            simpa [fr_put_at, upd_at, e] using this
        · rw [if_neg hd]; exact h19
        · rw [if_neg hd]; exact h20
        · rw [fr_put_at, if_neg a]
          exact hf q a b d)
    (fun b hI => by
      obtain ⟨σ', rfl, h18, h19, h20, hf⟩ := hI
      show ∃ c', zX1_scrape_L32 (nI n) σ' = _ ∧ _
      unfold zX1_scrape_L32
      rw [hf 14 (by decide) (by decide) (by decide), h14, if_pos (nI_le (Nat.le_refl _) (by omega))]
      exact ⟨_, rfl, h18, h19, h20, hf⟩)
    0 (0, fr_row (fr_row σ 19 (va_cpy (σ 6) (σ 19) 0 0 32)) 20 (va_cpy (σ 11) (σ 20) 0 0 4)) (by omega) ⟨_, rfl, fun j hj => by omega, fun c hc => by
      rw [fr_row_ne (by decide), fr_row_self]
      unfold va_cpy oT
      rw [if_pos (by omega), show 0 + (c - 0) = c by omega, h6 c hc]
      cases hgc : g c with
      | none => rfl
      | some v => rw [if_neg (by simp)]; show nI v = nI ((g c).getD 0); rw [hgc]; rfl, fun t ht => by
      rw [fr_row_self]
      unfold va_cpy
      rw [if_pos (by omega), show 0 + (t - 0) = t by omega, h11 t ht]; rfl, fun q a b c => by rw [fr_row_ne c, fr_row_ne b]⟩
  rw [hz, Option.bind_some]
  exact ⟨z, rfl, h18, h19, h20, hf⟩
