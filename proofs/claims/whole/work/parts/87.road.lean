/-! the road, read by the class; typing -/
theorem kd_eq {t : Nat} (h : t ≤ 255) : zX3_kindOf (nI t) = oI (rd_k t) := by
  unfold zX3_kindOf rd_k
  have e : ∀ k : Nat, k < 200 → (nI t = nI k ↔ t = k) := fun k hk => nI_eq (by omega) (by omega)
  simp only [show (46 : Int32) = nI 46 from rfl, show (108 : Int32) = nI 108 from rfl, show (114 : Int32) = nI 114 from rfl, show (115 : Int32) = nI 115 from rfl, show (120 : Int32) = nI 120 from rfl, e 46 (by decide), e 108 (by decide), e 114 (by decide), e 115 (by decide), e 120 (by decide)]
  by_cases h1 : t = 46
  · simp only [if_pos h1]; rfl
  by_cases h2 : t = 108
  · simp only [if_neg h1, if_pos h2]; rfl
  by_cases h3 : t = 114
  · simp only [if_neg h1, if_neg h2, if_pos h3]; rfl
  by_cases h4 : t = 115
  · simp only [if_neg h1, if_neg h2, if_neg h3, if_pos h4]; rfl
  by_cases h5 : t = 120
  · simp only [if_neg h1, if_neg h2, if_neg h3, if_neg h4, if_pos h5]; rfl
  · simp only [if_neg h1, if_neg h2, if_neg h3, if_neg h4, if_neg h5]; rfl
theorem rd_k5 {t k : Nat} (h : rd_k t = some k) : k < 5 := by
  unfold rd_k at h
  split at h
  · simp at h; omega
  split at h
  · simp at h; omega
  split at h
  · simp at h; omega
  split at h
  · simp at h; omega
  split at h
  · simp at h; omega
  · simp at h
def fx78 (σ σ' : fr_St) : Prop := ∀ q, q ≠ 7 → q ≠ 8 → σ' q = σ q
theorem rd_flt {T : Nat → Nat} : ∀ (k i j : Nat), rd_lp T k i = some j → j < i + k
  | 0, i, j => by intro h; simp [rd_lp] at h
  | k + 1, i, j => by
    simp only [rd_lp]
    intro h
    split at h
    · simp at h; omega
    · have := rd_flt k (i + 1) j h
      omega
theorem rx_reread {T : Nat → Nat} {n : Nat} {σ : fr_St} (hn : n ≤ 40) (hT : ∀ j, j < 40 → T j ≤ 255) (hsz : σ 3 1 = nI n) (hb : ∀ j, j < 40 → σ 5 j = nI (T j)) :
    ∃ σ', zX3_reread σ = some σ' ∧ rdx T n σ' ∧ fx78 σ σ' := by
  unfold zX3_reread
  rw [zfill _ _ _ _ (by decide), Option.bind_some]
  obtain ⟨z, hz, hf, h⟩ := lp_fu (body := fun (b2 : Int32 × fr_St) => zX3_reread_L15 b2.1 b2.2)
    (fun i b => ∃ σ', fx78 σ σ' ∧ b = (nI i, σ') ∧ ((σ' 7 2 = -1 ∧ rd_lp T (n - i) i = rd_lp T n 0 ∧ ∀ k, k < 5 → σ' 8 k = nI (su (fun i => if rd_k (T i) = some k then 1 else 0) i)) ∨ ∃ j, j < 40 ∧ rd_lp T n 0 = some j ∧ σ' 7 2 = nI j))
    (fun σ' => fx78 σ σ' ∧ ((σ' 7 2 = -1 ∧ rd_lp T n 0 = none ∧ ∀ k, k < 5 → σ' 8 k = nI (su (fun i => if rd_k (T i) = some k then 1 else 0) n)) ∨ ∃ j, j < 40 ∧ rd_lp T n 0 = some j ∧ σ' 7 2 = nI j)) n (by omega)
    (fun i b hi hI => by
      obtain ⟨σ', hf, rfl, hh⟩ := hI
      show (∃ b', zX3_reread_L15 (nI i) σ' = _ ∧ _) ∨ ∃ c', zX3_reread_L15 (nI i) σ' = _ ∧ _
      unfold zX3_reread_L15
      rw [if_neg (show ¬ σ' 3 1 ≤ nI i by rw [hf 3 (by decide) (by decide), hsz]; exact nI_ge hi (by omega))]
      rcases hh with ⟨h1, h2, h3⟩ | ⟨j, hj, h1, h2⟩
      · left
        obtain ⟨k, hk⟩ : ∃ k, n - i = k + 1 := ⟨n - i - 1, by omega⟩
        have hk' : n - (i + 1) = k := by omega
        rw [hk] at h2
        rw [hk']
        simp only [rd_lp] at h2
        rw [if_pos h1, fr_al_nI (show i < 40 by omega) (by decide), hf 5 (by decide) (by decide), hb i (by omega), Option.bind_some, kd_eq (hT i (by omega))]
        cases hr : rd_k (T i) with
        | none =>
          rw [hr] at h2
          unfold zX9_isKind
          rw [if_pos (show zX9_within (oI none) 0 4 = 0 by decide)]
          exact ⟨_, rfl, fr_put σ' 7 2 (nI i), fun q a b => by rw [fr_put_at, if_neg a]; exact hf q a b, by rw [nI_1], Or.inr ⟨i, by omega, h2.symm, by simp [fr_put_at, upd_at]⟩⟩
        | some v =>
          have hv := rd_k5 hr
          rw [hr] at h2
          unfold zX9_isKind
          show ∃ b', (if zX9_within (nI v) 0 4 = 0 then _ else (fr_al 5 σ' 8 (nI v)).bind (fun x2 => (fr_as 5 σ' 8 (nI v) (x2 + 1)).bind _)) = _ ∧ _
          rw [show zX9_within (nI v) 0 4 = 1 from wi_nI (m := 4) (by omega) (by decide), if10, fr_al_nI hv (by decide), Option.bind_some, fr_as_nI hv (by decide), Option.bind_some, h3 v hv, nI_1]
          refine ⟨_, rfl, fr_put σ' 8 v (nI (su (fun i => if rd_k (T i) = some v then 1 else 0) i + 1)), fun q a b => by rw [fr_put_at, if_neg b]; exact hf q a b, by rw [nI_1], Or.inl ⟨by simpa [fr_put_at] using h1, h2, fun k hk => ?_⟩⟩
          rw [fr_put_at, if_pos rfl, upd_at]
          show _ = nI (su _ i + (if rd_k (T i) = some k then 1 else 0))
          rw [hr]
          by_cases e : k = v
          · subst e; rw [if_pos rfl, if_pos rfl]
          · rw [if_neg e, if_neg (by simp; omega), h3 k hk, Nat.add_zero]
      · right
        rw [if_neg (by rw [h2]; exact nI_m1 (by omega))]
        exact ⟨_, rfl, hf, Or.inr ⟨j, hj, h1, h2⟩⟩)
    (fun b hI => by
      obtain ⟨σ', hf, rfl, hh⟩ := hI
      show ∃ c', zX3_reread_L15 (nI n) σ' = _ ∧ _
      unfold zX3_reread_L15
      rw [if_pos (show σ' 3 1 ≤ nI n by rw [hf 3 (by decide) (by decide), hsz]; exact nI_le (Nat.le_refl _) (by omega))]
      rw [Nat.sub_self] at hh
      exact ⟨_, rfl, hf, hh.imp (fun h => ⟨h.1, h.2.1.symm, h.2.2⟩) id⟩)
    0 (0, fr_put (fr_row σ 8 (fun j => if j < 5 then 0 else σ 8 j)) 7 2 (-1)) (by omega) ⟨_, fun q a b => by rw [fr_put_at, if_neg a, fr_row_ne b], rfl, Or.inl ⟨by simp [fr_put_at, upd_at], rfl, fun k hk => by simp [fr_put_at, fr_row_at, hk, su, nI_0]⟩⟩
  rw [hz, Option.bind_some]
  rcases h with ⟨h1, h2, h3⟩ | ⟨j, hj, h1, h2⟩
  · rw [if_pos h1, Option.bind_some, if_pos h1]
    have hnn : rd_n T n = n := by unfold rd_n; rw [h2]
    refine ⟨_, rfl, ⟨by rw [h2, fr_put_at, if_pos rfl, upd_at, if_neg (by decide), h1]; rfl, by rw [hnn, fr_put_at, if_pos rfl, upd_at, if_pos rfl, hf 3 (by decide) (by decide), hsz], fun k hk => ?_⟩, fun q a b => by rw [fr_put_at, if_neg a]; exact hf q a b⟩
    unfold rd_m
    rw [hnn, fr_put_at, if_neg (by decide)]
    exact h3 k hk
  · rw [if_neg (by rw [h2]; exact nI_m1 (by omega)), zfill _ _ _ _ (by decide), Option.bind_some, Option.bind_some, fr_row_ne (show (7 : Nat) ≠ 8 by decide), if_neg (by rw [h2]; exact nI_m1 (by omega))]
    have hnn : rd_n T n = 0 := by unfold rd_n; rw [h1]
    refine ⟨_, rfl, ⟨by rw [h1, fr_put_at, if_pos rfl, upd_at, if_neg (by decide), fr_row_ne (by decide), h2]; rfl, by rw [hnn, fr_put_at, if_pos rfl, upd_at, if_pos rfl, nI_0], fun k hk => ?_⟩, fun q a b => by rw [fr_put_at, if_neg a, fr_row_ne b]; exact hf q a b⟩
    unfold rd_m
    rw [hnn, fr_put_at, if_neg (by decide), fr_row_self, if_pos hk]
    exact nI_0.symm
theorem pn_congr {T T' : Nat → Nat} : ∀ (k i r c w : Nat) (g : Nat → Option Nat), (∀ j, i ≤ j → j < i + k → T j = T' j) → pn_lp T k i r c w g = pn_lp T' k i r c w g
  | 0, i, r, c, w, g, h => rfl
  | k + 1, i, r, c, w, g, h => by
    simp only [pn_lp]
    rw [h i (Nat.le_refl _) (by omega), pn_congr k (i + 1) (r + 1) 0 (if r = 0 then c else w) g (fun j a b => h j (by omega) (by omega)), pn_congr k (i + 1) r (c + 1) w (upO g (8 * r + c) (T' i - 48)) (fun j a b => h j (by omega) (by omega))]
theorem rr_pane {ν : Nat → Nat → Nat} {σx σm : fr_St} (hn : nb ν) (hx : xb ν σx) (hm : mb ν σm) (hs : shr σx σm) (hr : rdx (fun i => ν 5 (40 + i)) (ν 6 1) σx) (ht : stx (ν 18) (ν 0 27) σx) (h9 : σx 0 9 = σm 0 4) : ∃ σ', zX9_reread σx 0 = some σ' ∧ Rl σ' σm ∧ σ' 2 = σx 2 := by
  unfold zX9_reread
  obtain ⟨σ2, e2, hp, hf⟩ := px_reread (T := ν 5) (σ := σx) hn.1.1 (fun j hj => hn.2.1 j (by omega)) hx.1.1 hx.2.1
  rw [if_pos rfl, e2, Option.bind_some]
  have g : ∀ q, q ≠ 0 → (fr_put σ2 0 8 1) q = σ2 q := fun q h => by rw [fr_put_at, if_neg h]
  have g' : ∀ q, q ≠ 0 → q ≠ 1 → q ≠ 6 → (fr_put σ2 0 8 1) q = σx q := fun q h a b => by rw [g q h, hf q a b]
  refine ⟨_, rfl, ⟨ν, hn, xb_rows hx (fun q hq => g' q ?_ ?_ ?_), hm, shr_x hs (fun q a b => g' q (by omega) (by omega) (by omega)), ⟨?_, ?_, ?_⟩, Or.inl rfl, ?_⟩, g' 2 (by decide) (by decide) (by decide)⟩
  · rintro rfl; revert hq; decide
  · rintro rfl; revert hq; decide
  · rintro rfl; revert hq; decide
  · exact hp
  · unfold rdx at hr ⊢
    rw [g' 7 (by decide) (by decide) (by decide), g' 8 (by decide) (by decide) (by decide)]
    exact hr
  · unfold stx at ht ⊢
    rw [g' 27 (by decide) (by decide) (by decide), g' 28 (by decide) (by decide) (by decide)]
    exact ht
  · rw [← h9, ← hf 0 (by decide) (by decide)]
    rfl
theorem rr_road {ν : Nat → Nat → Nat} {σx σm : fr_St} (hn : nb ν) (hx : xb ν σx) (hm : mb ν σm) (hs : shr σx σm) (hr : pnx (ν 5) (ν 6 0) σx) (ht : stx (ν 18) (ν 0 27) σx) (h9 : σx 0 9 = σm 0 4) : ∃ σ', zX9_reread σx 1 = some σ' ∧ Rl σ' σm ∧ σ' 3 = σx 3 := by
  unfold zX9_reread
  obtain ⟨σ2, e2, hp, hf⟩ := rx_reread (T := fun i => ν 5 (40 + i)) (σ := σx) hn.1.2 (fun j hj => hn.2.1 (40 + j) (by omega)) hx.1.2 hx.2.2.1
  rw [if_neg (by decide), e2, Option.bind_some]
  have g : ∀ q, q ≠ 0 → (fr_put σ2 0 8 1) q = σ2 q := fun q h => by rw [fr_put_at, if_neg h]
  have g' : ∀ q, q ≠ 0 → q ≠ 7 → q ≠ 8 → (fr_put σ2 0 8 1) q = σx q := fun q h a b => by rw [g q h, hf q a b]
  refine ⟨_, rfl, ⟨ν, hn, xb_rows hx (fun q hq => g' q ?_ ?_ ?_), hm, shr_x hs (fun q a b => g' q (by omega) (by omega) (by omega)), ⟨?_, ?_, ?_⟩, Or.inl rfl, ?_⟩, g' 3 (by decide) (by decide) (by decide)⟩
  · rintro rfl; revert hq; decide
  · rintro rfl; revert hq; decide
  · rintro rfl; revert hq; decide
  · unfold pnx at hr ⊢
    rw [g' 1 (by decide) (by decide) (by decide), g' 6 (by decide) (by decide) (by decide)]
    exact hr
  · exact hp
  · unfold stx at ht ⊢
    rw [g' 27 (by decide) (by decide) (by decide), g' 28 (by decide) (by decide) (by decide)]
    exact ht
  · rw [← h9, ← hf 0 (by decide) (by decide)]
    rfl
theorem shr_68 {σx σm : fr_St} (hs : shr σx σm) {q j q' j' : Nat} {v v' : Int32} (hq : q < 30) (hq' : q' = 5 ∨ q' = 6) : shr (fr_put σx q j v) (fr_put σm q' j' v') :=
  shr_m (shr_x hs (fun a h1 h2 => by simp only [fr_put_at]; rw [if_neg (by omega)])) (fun a ha => by simp only [fr_put_at]; rw [if_neg (by rintro rfl; revert ha; rcases hq' with rfl | rfl <;> decide)])
theorem al20 {σ : fr_St} {q : Nat} : fr_al 2 σ q 0 = some (σ q 0) := fr_al_nI (i := 0) (by decide) (by decide)
theorem al21 {σ : fr_St} {q : Nat} : fr_al 2 σ q 1 = some (σ q 1) := fr_al_nI (i := 1) (by decide) (by decide)
theorem as20 {σ : fr_St} {q : Nat} {v : Int32} : fr_as 2 σ q 0 v = some (fr_put σ q 0 v) := fr_as_nI (i := 0) (by decide) (by decide)
theorem as21 {σ : fr_St} {q : Nat} {v : Int32} : fr_as 2 σ q 1 v = some (fr_put σ q 1 v) := fr_as_nI (i := 1) (by decide) (by decide)
theorem ok_wipe : sm_wipe Rl := by
  rintro σx σm a1 ⟨ν, hn, hx, hm, hs, hd, ho, hf⟩
  have hR : Rl σx σm := ⟨ν, hn, hx, hm, hs, hd, ho, hf⟩
  unfold zX9_wipe zX10_wipe zX9_isText
  simp only [in_isTwo]
  rcases wi_01 a1 with h1 | ⟨rfl, h1⟩ | ⟨rfl, h1⟩
  · exact ⟨-2, σx, σm, by rw [if_pos h1], by rw [if_pos h1], hR⟩
  · simp only [h1, if10]
    unfold zX9_scriptOf
    obtain ⟨σ', e, hR', h2⟩ := rr_pane (ν := nup ν 6 0 0) (σx := fr_put σx 2 1 0) (σm := fr_put σm 6 0 0) ⟨⟨Nat.zero_le _, hn.1.2⟩, hn.2⟩ ⟨⟨nI_0.symm, hx.1.2⟩, hx.2⟩ ⟨⟨nI_0.symm, hm.1.2⟩, hm.2⟩ (shr_68 hs (by decide) (Or.inr rfl)) hd.2.1 hd.2.2 hf
    refine ⟨nI (ν 6 0), σ', fr_put σm 6 0 0, ?_, ?_, hR'⟩
    · rw [if_pos rfl, Option.bind_some]
      show (zX9_reread (fr_put σx 2 1 0) 0).bind _ = _
      rw [e, Option.bind_some]
      show some (σx 2 1, σ') = _
      rw [hx.1.1]
    · rw [show (0 : Int32) = nI 0 from rfl, fr_al_nI (show 0 < 2 by decide) (by decide), Option.bind_some, fr_as_nI (show 0 < 2 by decide) (by decide), Option.bind_some, hm.1.1]
  · simp only [h1, if10]
    unfold zX9_scriptOf
    obtain ⟨σ', e, hR', h2⟩ := rr_road (ν := nup ν 6 1 0) (σx := fr_put σx 3 1 0) (σm := fr_put σm 6 1 0) ⟨⟨hn.1.1, Nat.zero_le _⟩, hn.2⟩ ⟨⟨hx.1.1, nI_0.symm⟩, hx.2⟩ ⟨⟨hm.1.1, nI_0.symm⟩, hm.2⟩ (shr_68 hs (by decide) (Or.inr rfl)) hd.1 hd.2.2 hf
    refine ⟨nI (ν 6 1), σ', fr_put σm 6 1 0, ?_, ?_, hR'⟩
    · rw [if_neg (by decide), Option.bind_some]
      show (zX9_reread (fr_put σx 3 1 0) 1).bind _ = _
      rw [e, Option.bind_some]
      show some (σx 3 1, σ') = _
      rw [hx.1.2]
    · rw [show (1 : Int32) = nI 1 from rfl, fr_al_nI (show 1 < 2 by decide) (by decide), Option.bind_some, fr_as_nI (show 1 < 2 by decide) (by decide), Option.bind_some, hm.1.2]
theorem ok_undo : sm_undo Rl := by
  rintro σx σm a1 ⟨ν, hn, hx, hm, hs, hd, ho, hf⟩
  have hR : Rl σx σm := ⟨ν, hn, hx, hm, hs, hd, ho, hf⟩
  unfold zX9_undo zX10_undo zX9_isText
  simp only [in_isTwo]
  rcases wi_01 a1 with h1 | ⟨rfl, h1⟩ | ⟨rfl, h1⟩
  · exact ⟨-2, σx, σm, by rw [if_pos h1], by rw [if_pos h1], hR⟩
  · simp only [h1, if10]
    unfold zX9_scriptOf
    have l35 := hn.1.1
    by_cases h0 : ν 6 0 = 0
    · refine ⟨-3, σx, σm, ?_, ?_, hR⟩
      · rw [if_pos rfl, Option.bind_some]
        show (if 0 < σx 2 1 then _ else _) = _
        rw [hx.1.1, if_neg (by rw [nI_lt0 (by omega)]; omega)]
      · rw [show (0 : Int32) = nI 0 from rfl, fr_al_nI (show 0 < 2 by decide) (by decide), Option.bind_some, hm.1.1, if_pos (by rw [h0])]
    · obtain ⟨n, hn6⟩ : ∃ n, ν 6 0 = n + 1 := ⟨ν 6 0 - 1, by omega⟩
      obtain ⟨σ', e, hR', h2⟩ := rr_pane (ν := nup ν 6 0 n) (σx := fr_put σx 2 1 (nI n)) (σm := fr_put σm 6 0 (nI n)) ⟨⟨by show n ≤ 35; omega, hn.1.2⟩, hn.2⟩ ⟨⟨rfl, hx.1.2⟩, hx.2⟩ ⟨⟨rfl, hm.1.2⟩, hm.2⟩ (shr_68 hs (by decide) (Or.inr rfl)) hd.2.1 hd.2.2 hf
      refine ⟨nI n, σ', fr_put σm 6 0 (nI n), ?_, ?_, hR'⟩
      · rw [if_pos rfl, Option.bind_some]
        show (if 0 < σx 2 1 then (zX9_reread (fr_put σx 2 1 (σx 2 1 - 1)) 0).bind _ else _) = _
        rw [hx.1.1, if_pos (by rw [nI_lt0 (by omega)]; omega), hn6, nI_pred, e, Option.bind_some]
        show some (σ' 2 1, σ') = _
        rw [h2]
        rfl
      · rw [show (0 : Int32) = nI 0 from rfl, fr_al_nI (show 0 < 2 by decide) (by decide), Option.bind_some, hm.1.1, if_neg (by rw [nI_0, nI_eq0 (by omega)]; exact h0), Option.bind_some, fr_as_nI (show 0 < 2 by decide) (by decide), Option.bind_some, fr_al_nI (show 0 < 2 by decide) (by decide), Option.bind_some, hn6, nI_pred]
        rfl
  · simp only [h1, if10]
    unfold zX9_scriptOf
    have l35 := hn.1.2
    by_cases h0 : ν 6 1 = 0
    · refine ⟨-3, σx, σm, ?_, ?_, hR⟩
      · rw [if_neg (by decide), Option.bind_some]
        show (if 0 < σx 3 1 then _ else _) = _
        rw [hx.1.2, if_neg (by rw [nI_lt0 (by omega)]; omega)]
      · rw [show (1 : Int32) = nI 1 from rfl, fr_al_nI (show 1 < 2 by decide) (by decide), Option.bind_some, hm.1.2, if_pos (by rw [h0]; rfl)]
    · obtain ⟨n, hn6⟩ : ∃ n, ν 6 1 = n + 1 := ⟨ν 6 1 - 1, by omega⟩
      obtain ⟨σ', e, hR', h2⟩ := rr_road (ν := nup ν 6 1 n) (σx := fr_put σx 3 1 (nI n)) (σm := fr_put σm 6 1 (nI n)) ⟨⟨hn.1.1, by show n ≤ 40; omega⟩, hn.2⟩ ⟨⟨hx.1.1, rfl⟩, hx.2⟩ ⟨⟨hm.1.1, rfl⟩, hm.2⟩ (shr_68 hs (by decide) (Or.inr rfl)) hd.1 hd.2.2 hf
      refine ⟨nI n, σ', fr_put σm 6 1 (nI n), ?_, ?_, hR'⟩
      · rw [if_neg (by decide), Option.bind_some]
        show (if 0 < σx 3 1 then (zX9_reread (fr_put σx 3 1 (σx 3 1 - 1)) 1).bind _ else _) = _
        rw [hx.1.2, if_pos (by rw [nI_lt0 (by omega)]; omega), hn6, nI_pred, e, Option.bind_some]
        show some (σ' 3 1, σ') = _
        rw [h2]
        rfl
      · rw [al21, Option.bind_some, hm.1.2, if_neg (by rw [nI_eq0 (by omega)]; exact h0), Option.bind_some, hn6, nI_pred, as21, Option.bind_some, al21, Option.bind_some]
        rfl
theorem ok_type : sm_type Rl := by
  rintro σx σm a1 a2 ⟨ν, hn, hx, hm, hs, hd, ho, hf⟩
  have hR : Rl σx σm := ⟨ν, hn, hx, hm, hs, hd, ho, hf⟩
  unfold zX9_type zX10_type zX9_isText
  simp only [in_isTwo, in_0_255]
  rcases wi_c a2 (M := 255) (m := 255) rfl (by decide) with h2 | ⟨v, hv, rfl, h2⟩
  · refine ⟨-2, σx, σm, ?_, ?_, hR⟩
    · rw [if_pos h2]; by_cases h1 : zX9_within a1 0 1 = 0
      · rw [if_pos h1]
      · rw [if_neg h1]
    · rw [if_pos h2]; by_cases h1 : zX9_within a1 0 1 = 0
      · rw [if_pos h1]
      · rw [if_neg h1]
  rcases wi_01 a1 with h1 | ⟨rfl, h1⟩ | ⟨rfl, h1⟩
  · exact ⟨-2, σx, σm, by rw [if_pos h1], by rw [if_pos h1], hR⟩
  · simp only [h1, h2, if10]
    unfold zX9_scriptOf
    simp only [if_true, al20, Option.bind_some]
    have l35 := hn.1.1
    by_cases h0 : ν 6 0 = 35
    · refine ⟨-4, σx, σm, ?_, ?_, hR⟩
      · show (if zX4_isFull σx 0 = 0 then _ else _) = _
        unfold zX4_isFull
        show (if (if σx 2 1 < 35 then 0 else 1) = (0 : Int32) then _ else _) = _
        rw [hx.1.1, h0, if_neg (show ¬ nI 35 < 35 by decide), if10]
      · rw [hm.1.1, if_pos (by rw [h0]; rfl)]
    · generalize hN : ν 6 0 = n at *
      have hlt : n < 35 := by omega
      have x1 : σx 2 1 = nI n := hN ▸ hx.1.1
      have m1 : σm 6 0 = nI n := hN ▸ hm.1.1
      obtain ⟨σ', e, hR', h3⟩ := rr_pane (ν := nup (nup ν 5 n v) 6 0 (n + 1)) (σx := fr_put (fr_put σx 4 n (nI v)) 2 1 (nI (n + 1))) (σm := fr_put (fr_put σm 5 n (nI v)) 6 0 (nI (n + 1)))
        ⟨⟨by show n + 1 ≤ 35; omega, hn.1.2⟩, up_le hn.2.1 hv, hn.2.2⟩ ⟨⟨rfl, hx.1.2⟩, row_up hx.2.1, fun j hj => by
          show σx 5 j = nI (if 40 + j = n then v else ν 5 (40 + j))
          rw [if_neg (by omega)]; exact hx.2.2.1 j hj, hx.2.2.2⟩ ⟨⟨rfl, hm.1.2⟩, row_up hm.2.1, hm.2.2⟩ (shr_68 (shr_68 hs (by decide) (Or.inl rfl)) (by decide) (Or.inr rfl)) (by
          show rdx (fun i => if 40 + i = n then v else ν 5 (40 + i)) (ν 6 1) σx
          rw [show (fun i => if 40 + i = n then v else ν 5 (40 + i)) = fun i => ν 5 (40 + i) from funext (fun i => if_neg (by omega))]
          exact hd.2.1) hd.2.2 hf
      refine ⟨nI (n + 1), σ', _, ?_, ?_, hR'⟩
      · show (if zX4_isFull σx 0 = 0 then (zX4_append σx 0 (nI v)).bind (fun σ3 => (zX9_reread σ3 0).bind (fun σ4 => some (σ4 2 1, σ4))) else _) = _
        unfold zX4_isFull zX4_append
        show (if (if σx 2 1 < 35 then 0 else 1) = (0 : Int32) then (if 35 ≤ σx 2 1 then some σx else (fr_as 35 σx 4 (σx 2 1) (nI v)).bind (fun σ1 => some (fr_put σ1 2 1 (σ1 2 1 + 1)))).bind (fun σ3 => (zX9_reread σ3 0).bind (fun σ4 => some (σ4 2 1, σ4))) else _) = _
        rw [x1, if_pos (show nI n < 35 from nI_lt (b := 35) hlt (by decide)), if00, if_neg (show ¬ 35 ≤ nI n from nI_ge (b := 35) hlt (by decide)), fr_as_nI hlt (by decide), Option.bind_some, Option.bind_some]
        rw [show fr_put σx 4 n (nI v) 2 1 = nI n from x1, nI_1, e, Option.bind_some, h3]
        rfl
      · rw [m1, if_neg (by rw [show (35 : Int32) = nI 35 from rfl, nI_eq (by omega) (by decide)]; exact h0), show (40 : Int32) * 0 + nI n = nI n by rw [show (40 : Int32) * 0 = nI 0 from rfl, nI_add, Nat.zero_add], fr_as_nI (by omega) (by decide), Option.bind_some, as20, Option.bind_some]
        rw [show fr_put σm 5 n (nI v) 6 0 = nI n from m1, nI_1]
        rfl
  · simp only [h1, h2, if10]
    unfold zX9_scriptOf
    rw [if_neg (by decide)]
    simp only [al21, Option.bind_some]
    have l35 := hn.1.2
    by_cases h0 : ν 6 1 = 40
    · refine ⟨-4, σx, σm, ?_, ?_, hR⟩
      · show (if zX4_isFull σx 1 = 0 then _ else _) = _
        unfold zX4_isFull
        show (if (if σx 3 1 < 40 then 0 else 1) = (0 : Int32) then _ else _) = _
        rw [hx.1.2, h0, if_neg (show ¬ nI 40 < 40 by decide), if10]
      · rw [hm.1.2, if_pos (by rw [h0]; rfl)]
    · generalize hN : ν 6 1 = n at *
      have hlt : n < 40 := by omega
      have x1 : σx 3 1 = nI n := hN ▸ hx.1.2
      have m1 : σm 6 1 = nI n := hN ▸ hm.1.2
      obtain ⟨σ', e, hR', h3⟩ := rr_road (ν := nup (nup ν 5 (40 + n) v) 6 1 (n + 1)) (σx := fr_put (fr_put σx 5 n (nI v)) 3 1 (nI (n + 1))) (σm := fr_put (fr_put σm 5 (40 + n) (nI v)) 6 1 (nI (n + 1)))
        ⟨⟨hn.1.1, by show n + 1 ≤ 40; omega⟩, up_le hn.2.1 hv, hn.2.2⟩ ⟨⟨hx.1.1, rfl⟩, fun j hj => by
          show σx 4 j = nI (if j = 40 + n then v else ν 5 j)
          rw [if_neg (by omega)]; exact hx.2.1 j hj, fun j hj => by
          show upd (σx 5) n (nI v) j = nI (if 40 + j = 40 + n then v else ν 5 (40 + j))
          rw [upd_at]
          by_cases hj2 : j = n
          · rw [if_pos hj2, if_pos (by omega)]
          · rw [if_neg hj2, if_neg (by omega)]; exact hx.2.2.1 j hj, hx.2.2.2⟩ ⟨⟨hm.1.1, rfl⟩, row_up hm.2.1, hm.2.2⟩ (shr_68 (shr_68 hs (by decide) (Or.inl rfl)) (by decide) (Or.inr rfl)) (by
          show pnx (fun j => if j = 40 + n then v else ν 5 j) (ν 6 0) σx
          unfold pnx pn
          have l36 := hn.1.1
          rw [pn_congr (T' := ν 5) (ν 6 0) 0 0 0 8 _ (fun j a b => if_neg (by omega))]
          exact hd.1) hd.2.2 hf
      refine ⟨nI (n + 1), σ', _, ?_, ?_, hR'⟩
      · show (if zX4_isFull σx 1 = 0 then (zX4_append σx 1 (nI v)).bind (fun σ3 => (zX9_reread σ3 1).bind (fun σ4 => some (σ4 3 1, σ4))) else _) = _
        unfold zX4_isFull zX4_append
        show (if (if σx 3 1 < 40 then 0 else 1) = (0 : Int32) then (if 40 ≤ σx 3 1 then some σx else (fr_as 40 σx 5 (σx 3 1) (nI v)).bind (fun σ1 => some (fr_put σ1 3 1 (σ1 3 1 + 1)))).bind (fun σ3 => (zX9_reread σ3 1).bind (fun σ4 => some (σ4 3 1, σ4))) else _) = _
        rw [x1, if_pos (show nI n < 40 from nI_lt (b := 40) hlt (by decide)), if00, if_neg (show ¬ 40 ≤ nI n from nI_ge (b := 40) hlt (by decide)), fr_as_nI hlt (by decide), Option.bind_some, Option.bind_some]
        rw [show fr_put σx 5 n (nI v) 3 1 = nI n from x1, nI_1, e, Option.bind_some, h3]
        rfl
      · rw [m1, if_neg (by rw [show (40 : Int32) = nI 40 from rfl, nI_eq (by omega) (by decide)]; exact h0), show (40 : Int32) * 1 + nI n = nI (40 + n) by rw [show (40 : Int32) * 1 = nI 40 from rfl, nI_add], fr_as_nI (by omega) (by decide), Option.bind_some, as21, Option.bind_some]
        rw [show fr_put σm 5 (40 + n) (nI v) 6 1 = nI n from m1, nI_1]
        rfl
