/-! the pane, read by the class -/
theorem me_eq {r c w : Nat} (hr : r < 2 ^ 20) (hc : c < 2 ^ 20) (hw : w < 2 ^ 20) : zX2_mayEnd (nI r) (nI c) (nI w) = if pn_me r c w then 1 else 0 := by
  unfold zX2_mayEnd pn_me
  by_cases h0 : r = 0
  · subst h0
    rw [if_pos nI_0, if_pos rfl]
    by_cases h1 : 0 < c
    · rw [if_neg (nI_nle h1 (by omega)), if_pos (by simpa using h1)]
    · have : c = 0 := by omega
      subst this
      rw [if_pos (show nI 0 ≤ 0 by decide), if_neg (by simp)]
  · rw [if_neg (nI_ne0 (by omega) (by omega)), if_neg h0]
    by_cases h1 : r < 4
    · rw [if_neg (show ¬ (4 : Int32) ≤ nI r from nI_ge (b := 4) h1 (by decide))]
      by_cases h2 : c = w
      · subst h2; rw [if_pos rfl]; simp [h1]
      · rw [if_neg (by rw [nI_eq (by omega) (by omega)]; exact h2)]; simp [h1, h2]
    · rw [if_pos (show (4 : Int32) ≤ nI r from nI_le (a := 4) (by omega) (by omega))]; simp [h1]
theorem wi_dig {t : Nat} (h : t ≤ 255) : zX9_within (nI t) 48 57 = if 48 ≤ t ∧ t ≤ 57 then 1 else 0 := by
  unfold zX9_within
  by_cases h1 : t < 48
  · rw [if_pos (show nI t < 48 from nI_lt (b := 48) h1 (by decide)), if_neg (by omega)]
  · rw [if_neg (show ¬ nI t < 48 from nI_nlt (b := 48) (by omega) (by omega))]
    by_cases h2 : 57 < t
    · rw [if_pos (show (57 : Int32) < nI t from nI_lt (a := 57) h2 (by omega)), if_neg (by omega)]
    · rw [if_neg (show ¬ (57 : Int32) < nI t from nI_nlt (a := 57) (by omega) (by decide)), if_pos (by omega)]
/-- the cells that the class holds are g's -/
def pcx (g : Nat → Option Nat) (σ : fr_St) : Prop := (∀ c, c < 32 → σ 6 c = oI (g c)) ∧ σ 1 3 = nI (su (fun c => ouS (g c)) 32) ∧ σ 1 4 = nI (su (fun c => (g c).getD 0) 32) ∧ σ 1 5 = nI (su (fun c => ou0 (g c)) 32)
def fx16 (σ σ' : fr_St) : Prop := ∀ q, q ≠ 1 → q ≠ 6 → σ' q = σ q
theorem su_z : ∀ n, su (fun _ => 0) n = 0
  | 0 => rfl
  | n + 1 => su_z n
theorem px_empty (σ : fr_St) : ∃ σ', zX2_empty σ = some σ' ∧ pcx (fun _ => none) σ' ∧ fx16 σ σ' ∧ σ' 1 2 = σ 1 2 := by
  unfold zX2_empty
  rw [zfill _ _ _ _ (by decide)]
  refine ⟨_, rfl, ⟨fun c hc => ?_, ?_, ?_, ?_⟩, fun q h1 h6 => ?_, ?_⟩
  · simp [fr_put_at, fr_row_at, hc, oI]
  · simp [fr_put_at, fr_row_at, upd_at, ouS, su_z, nI_0]
  · simp [fr_put_at, fr_row_at, upd_at, su_z, nI_0]
  · simp [fr_put_at, fr_row_at, upd_at, ou0, su_z, nI_0]
  · simp [fr_put_at, fr_row_at, h1, h6]
  · simp [fr_put_at, fr_row_at, upd_at]
theorem px_add {g : Nat → Option Nat} {σ : fr_St} {k v : Nat} (hp : pcx g σ) (hk : k < 32) (hv9 : v ≤ 9) (hg : g k = none) : ∃ σ', zX2_addCell σ (nI k) (nI v) = some σ' ∧ pcx (upO g k v) σ' ∧ fx16 σ σ' ∧ σ' 1 2 = σ 1 2 := by
  obtain ⟨p1, p2, p3, p4⟩ := hp
  have s1 : su (fun c => ouS (upO g k v c)) 32 = su (fun c => ouS (g c)) 32 + 1 := by
    have := su_upd (f := fun c => ouS (g c)) (p := k) (v := 1) (n := 32) hk
    rw [hg] at this
    rw [← show su (fun i => if i = k then 1 else ouS (g i)) 32 + ouS none = su (fun c => ouS (g c)) 32 + 1 from this]
    show _ = su _ 32 + 0
    rw [Nat.add_zero]
    exact su_congr (fun i _ => by unfold upO; by_cases h : i = k <;> simp [h, ouS])
  have s2 : su (fun c => (upO g k v c).getD 0) 32 = su (fun c => (g c).getD 0) 32 + v := by
    have := su_upd (f := fun c => (g c).getD 0) (p := k) (v := v) (n := 32) hk
    rw [hg] at this
    rw [← show su (fun i => if i = k then v else (g i).getD 0) 32 + 0 = su (fun c => (g c).getD 0) 32 + v from this, Nat.add_zero]
    exact su_congr (fun i _ => by unfold upO; by_cases h : i = k <;> simp [h])
  have s3 : su (fun c => ou0 (upO g k v c)) 32 = su (fun c => ou0 (g c)) 32 + ou0 (some v) := by
    have := su_upd (f := fun c => ou0 (g c)) (p := k) (v := ou0 (some v)) (n := 32) hk
    rw [hg] at this
    rw [← show su (fun i => if i = k then ou0 (some v) else ou0 (g i)) 32 + 0 = su (fun c => ou0 (g c)) 32 + ou0 (some v) from this, Nat.add_zero]
    exact su_congr (fun i _ => by unfold upO; by_cases h : i = k <;> simp [h])
  unfold zX2_addCell zX9_isCell
  rw [show zX9_within (nI k) 0 31 = 1 from wi_nI (m := 31) (by omega) (by decide), if10, fr_as_nI hk (by decide), Option.bind_some]
  have c6 : ∀ (c : Nat), c < 32 → upd (σ 6) k (nI v) c = oI (upO g k v c) := fun c hc => by
    unfold upO
    rw [upd_at]
    by_cases h : c = k
    · rw [if_pos h, if_pos h]; rfl
    · rw [if_neg h, if_neg h]; exact p1 c hc
  by_cases hv : nI v = 0
  · have v0 : v = 0 := (nI_eq0 (by omega)).mp hv
    rw [if_pos hv]
    refine ⟨_, rfl, ⟨fun c hc => ?_, ?_, ?_, ?_⟩, fun q h1 h6 => ?_, ?_⟩
    · simp only [fr_put_at]
      exact c6 c hc
    · rw [s1]; simp [fr_put_at, upd_at, p2, nI_1]
    · rw [s2]; simp [fr_put_at, upd_at, p3, nI_add]
    · rw [s3]; simp [fr_put_at, upd_at, p4, nI_1, v0, ou0]
    · simp [fr_put_at, h1, h6]
    · simp [fr_put_at, upd_at]
  · have v0 : v ≠ 0 := fun h => hv (by rw [h, nI_0])
    rw [if_neg hv]
    refine ⟨_, rfl, ⟨fun c hc => ?_, ?_, ?_, ?_⟩, fun q h1 h6 => ?_, ?_⟩
    · simp only [fr_put_at]
      exact c6 c hc
    · rw [s1]; simp [fr_put_at, upd_at, p2, nI_1]
    · rw [s2]; simp [fr_put_at, upd_at, p3, nI_add]
    · rw [s3, show ou0 (some v) = 0 by unfold ou0; split <;> simp_all]; simp [fr_put_at, upd_at, p4]
    · simp [fr_put_at, h1, h6]
    · simp [fr_put_at, upd_at]
theorem px_rows {T : Nat → Nat} {n : Nat} {σ : fr_St} (hn : n ≤ 35) (hT : ∀ j, j < 35 → T j ≤ 255) (hsz : σ 2 1 = nI n) (hb : ∀ j, j < 35 → σ 4 j = nI (T j)) (h0 : pcx (fun _ => none) σ) :
    ∃ σ', zX2_readRows σ = some (oI (pn T n).1, σ') ∧ ((pn T n).1 = none → pcx (pn T n).2.2.2 σ') ∧ ((pn T n).1 ≠ none → (pn T n).2.2.2 = fun _ => none) ∧ fx16 σ σ' ∧ σ' 1 2 = σ 1 2 := by
  unfold zX2_readRows
  obtain ⟨z, hz, hQ⟩ := lp_fu (body := fun (b1 : Int32 × Int32 × Int32 × Int32 × fr_St) => zX2_readRows_L10 b1.1 b1.2.1 b1.2.2.1 b1.2.2.2.1 b1.2.2.2.2)
    (fun i b => ∃ r c w g σ', b = (nI r, nI c, nI w, nI i, σ') ∧ pn_lp T (n - i) i r c w g = pn T n ∧ pcx g σ' ∧ fx16 σ σ' ∧ σ' 1 2 = σ 1 2 ∧ r ≤ i ∧ c ≤ 8 ∧ w ≤ 8 ∧ ∀ k, 8 * r + c ≤ k → g k = none)
    (fun z => ∃ σ', fx16 σ σ' ∧ σ' 1 2 = σ 1 2 ∧ ((∃ i, i < 35 ∧ z = .inl (nI i, σ') ∧ pn T n = (some i, 0, 0, fun _ => none)) ∨ ∃ r c w g, z = .inr (nI r, nI c, nI w, σ') ∧ pn_lp T 0 n r c w g = pn T n ∧ pcx g σ' ∧ r ≤ 35 ∧ c ≤ 8 ∧ w ≤ 8)) n (by omega)
    (fun i b hi hI => by
      obtain ⟨r, c, w, g, σ', rfl, hlp, hp, hf, h12, hri, hc8, hw8, hfr⟩ := hI
      obtain ⟨k, hk⟩ : ∃ k, n - i = k + 1 := ⟨n - i - 1, by omega⟩
      have hk' : n - (i + 1) = k := by omega
      rw [hk] at hlp
      rw [hk']
      have hti := hT i (by omega)
      simp only [pn_lp] at hlp
      show (∃ b', zX2_readRows_L10 (nI r) (nI c) (nI w) (nI i) σ' = _ ∧ _) ∨ ∃ c', zX2_readRows_L10 (nI r) (nI c) (nI w) (nI i) σ' = _ ∧ _
      unfold zX2_readRows_L10
      rw [if_neg (show ¬ σ' 2 1 ≤ nI i by rw [hf 2 (by decide) (by decide), hsz]; exact nI_ge hi (by omega)), fr_al_nI (show i < 35 by omega) (by decide), hf 4 (by decide) (by decide), hb i (by omega), Option.bind_some, me_eq (by omega) (by omega) (by omega)]
      by_cases h59 : T i = 59
      · rw [if_pos (show nI (T i) = 59 by rw [h59]; rfl)]
        rw [if_pos h59] at hlp
        by_cases hme : pn_me r c w = true
        · rw [if_pos hme] at hlp
          rw [if_pos hme, if10]
          left
          by_cases hr0 : r = 0
          · rw [if_pos (show nI r = 0 by rw [hr0]; rfl)]
            rw [if_pos hr0] at hlp
            exact ⟨_, rfl, r + 1, 0, c, g, σ', by rw [nI_1, nI_1, nI_0], hlp, hp, hf, h12, by omega, by omega, by omega, fun k hk => hfr k (by omega)⟩
          · rw [if_neg (nI_ne0 (by omega) (by omega))]
            rw [if_neg hr0] at hlp
            exact ⟨_, rfl, r + 1, 0, w, g, σ', by rw [nI_1, nI_1, nI_0], hlp, hp, hf, h12, by omega, by omega, by omega, fun k hk => hfr k (by omega)⟩
        · rw [if_neg hme] at hlp
          rw [if_neg hme, if00]
          exact Or.inr ⟨_, rfl, σ', hf, h12, Or.inl ⟨i, by omega, rfl, hlp.symm⟩⟩
      · rw [if_neg (show ¬ nI (T i) = 59 by rw [show (59 : Int32) = nI 59 from rfl, nI_eq (by omega) (by omega)]; exact h59)]
        rw [if_neg h59] at hlp
        rw [wi_dig hti]
        by_cases hd : 48 ≤ T i ∧ T i ≤ 57
        · rw [if_pos hd, if10]
          by_cases hr4 : r < 4
          · rw [if_neg (show ¬ (4 : Int32) ≤ nI r from nI_ge (b := 4) hr4 (by decide))]
            by_cases hcw : c < w
            · rw [if_pos ⟨hd.1, hd.2, hr4, hcw⟩] at hlp
              rw [if_pos (nI_lt hcw (by omega)), show (8 : Int32) * nI r + nI c = nI (8 * r + c) by rw [show (8 : Int32) = nI 8 from rfl, pk_mul, nI_add], show nI (T i) - 48 = nI (T i - 48) from pk_sub (b := 48) hd.1]
              obtain ⟨σ2, e2, hp2, hf2, h22⟩ := px_add (v := T i - 48) hp (show 8 * r + c < 32 by omega) (by omega) (hfr _ (Nat.le_refl _))
              rw [e2, Option.bind_some]
              exact Or.inl ⟨_, rfl, r, c + 1, w, _, σ2, by rw [nI_1, nI_1], hlp, hp2, fun q a b => (hf2 q a b).trans (hf q a b), h22.trans h12, by omega, by omega, by omega, fun k hk => by unfold upO; rw [if_neg (by omega)]; exact hfr k (by omega)⟩
            · rw [if_neg (by omega)] at hlp
              rw [if_neg (nI_nlt (by omega) (by omega))]
              exact Or.inr ⟨_, rfl, σ', hf, h12, Or.inl ⟨i, by omega, rfl, hlp.symm⟩⟩
          · rw [if_neg (by omega)] at hlp
            rw [if_pos (show (4 : Int32) ≤ nI r from nI_le (a := 4) (by omega) (by omega))]
            exact Or.inr ⟨_, rfl, σ', hf, h12, Or.inl ⟨i, by omega, rfl, hlp.symm⟩⟩
        · rw [if_neg (by omega)] at hlp
          rw [if_neg hd, if00]
          exact Or.inr ⟨_, rfl, σ', hf, h12, Or.inl ⟨i, by omega, rfl, hlp.symm⟩⟩)
    (fun b hI => by
      obtain ⟨r, c, w, g, σ', rfl, hlp, hp, hf, h12, hri, hc8, hw8, hfr⟩ := hI
      rw [Nat.sub_self] at hlp
      show ∃ c', zX2_readRows_L10 (nI r) (nI c) (nI w) (nI n) σ' = _ ∧ _
      unfold zX2_readRows_L10
      rw [if_pos (show σ' 2 1 ≤ nI n by rw [hf 2 (by decide) (by decide), hsz]; exact nI_le (Nat.le_refl _) (by omega))]
      exact ⟨_, rfl, σ', hf, h12, Or.inr ⟨r, c, w, g, rfl, hlp, hp, by omega, hc8, hw8⟩⟩)
    0 (0, 0, 8, 0, σ) (by omega) ⟨0, 0, 8, fun _ => none, σ, rfl, rfl, h0, fun _ _ _ => rfl, rfl, by omega, by omega, by omega, fun _ _ => rfl⟩
  rw [hz, Option.bind_some]
  obtain ⟨σ', hf, h12, ⟨i, hi, rfl, hpn⟩ | ⟨r, c, w, g, rfl, hlp, hp, hr, hc, hw⟩⟩ := hQ
  · rw [hpn]
    exact ⟨σ', rfl, fun h => (by simp at h), fun _ => rfl, hf, h12⟩
  · simp only [pn_lp] at hlp
    show ∃ σ'', (if σ' 2 1 = 0 then some (-1, σ') else if zX2_mayEnd (nI r) (nI c) (nI w) = 0 then some (σ' 2 1, σ') else some (-1, σ')) = _ ∧ _
    rw [hf 2 (by decide) (by decide), hsz, me_eq (by omega) (by omega) (by omega)]
    by_cases hn0 : n = 0
    · rw [if_pos hn0] at hlp
      rw [if_pos (show nI n = 0 by rw [hn0]; rfl), ← hlp]
      exact ⟨σ', rfl, fun _ => hp, fun h => absurd rfl h, hf, h12⟩
    · rw [if_neg hn0] at hlp
      rw [if_neg (nI_ne0 (by omega) (by omega))]
      by_cases hme : pn_me r c w = true
      · rw [if_pos hme] at hlp
        rw [if_pos hme, if10, ← hlp]
        exact ⟨σ', rfl, fun _ => hp, fun h => absurd rfl h, hf, h12⟩
      · rw [if_neg hme] at hlp
        rw [if_neg hme, if00, ← hlp]
        exact ⟨σ', rfl, fun h => (by simp at h), fun _ => rfl, hf, h12⟩
theorem pn_flt {T : Nat → Nat} : ∀ (k i r c w : Nat) (g : Nat → Option Nat) (j : Nat), (pn_lp T k i r c w g).1 = some j → j ≤ i + k
  | 0, i, r, c, w, g, j => by
    simp only [pn_lp]
    intro h
    by_cases h0 : i = 0
    · rw [if_pos h0] at h; simp at h
    · rw [if_neg h0] at h
      by_cases h1 : pn_me r c w = true
      · rw [if_pos h1] at h; simp at h
      · rw [if_neg h1] at h; simp at h; omega
  | k + 1, i, r, c, w, g, j => by
    simp only [pn_lp]
    intro h
    by_cases h0 : T i = 59
    · rw [if_pos h0] at h
      by_cases h1 : pn_me r c w = true
      · rw [if_pos h1] at h
        have := pn_flt k _ _ _ _ _ j h
        omega
      · rw [if_neg h1] at h; simp at h; omega
    · rw [if_neg h0] at h
      by_cases h1 : 48 ≤ T i ∧ T i ≤ 57 ∧ r < 4 ∧ c < w
      · rw [if_pos h1] at h
        have := pn_flt k _ _ _ _ _ j h
        omega
      · rw [if_neg h1] at h; simp at h; omega
theorem px_reread {T : Nat → Nat} {n : Nat} {σ : fr_St} (hn : n ≤ 35) (hT : ∀ j, j < 35 → T j ≤ 255) (hsz : σ 2 1 = nI n) (hb : ∀ j, j < 35 → σ 4 j = nI (T j)) :
    ∃ σ', zX2_reread σ = some σ' ∧ pnx T n σ' ∧ fx16 σ σ' := by
  unfold zX2_reread
  obtain ⟨σ1, e1, p1, f1, _⟩ := px_empty σ
  rw [e1, Option.bind_some]
  obtain ⟨σ2, e2, p2, q2, f2, _⟩ := px_rows (σ := σ1) (T := T) hn hT ((congrFun (f1 2 (by decide) (by decide)) 1).trans hsz) (fun j hj => (congrFun (f1 4 (by decide) (by decide)) j).trans (hb j hj)) p1
  rw [e2, Option.bind_some]
  have f3 : fx16 σ (fr_put σ2 1 2 (oI (pn T n).1)) := fun q h1 h6 => by
    rw [fr_put_at, if_neg h1, f2 q h1 h6, f1 q h1 h6]
  have e12 : (fr_put σ2 1 2 (oI (pn T n).1)) 1 2 = oI (pn T n).1 := by simp [fr_put_at, upd_at]
  by_cases hN : (pn T n).1 = none
  · rw [if_pos (show (fr_put σ2 1 2 (oI (pn T n).1)) 1 2 = -1 by rw [e12, hN]; rfl)]
    refine ⟨_, rfl, ⟨e12, ?_⟩, f3⟩
    have := p2 hN
    unfold pcx at this
    simpa [fr_put_at, upd_at] using this
  · obtain ⟨i, hi⟩ := Option.ne_none_iff_exists'.mp hN
    have hil : i ≤ 35 := by have := pn_flt n 0 0 0 8 (fun _ => none) i hi; omega
    rw [if_neg (show ¬ (fr_put σ2 1 2 (oI (pn T n).1)) 1 2 = -1 by rw [e12, hi]; exact nI_m1 (by omega))]
    obtain ⟨σ4, e4, p4, f4, h4⟩ := px_empty (fr_put σ2 1 2 (oI (pn T n).1))
    rw [e4, Option.bind_some]
    refine ⟨_, rfl, ⟨h4.trans e12, ?_⟩, fun q a b => (f4 q a b).trans (f3 q a b)⟩
    rw [q2 hN]
    exact p4
