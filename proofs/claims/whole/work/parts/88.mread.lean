/-! the pane and the road, read by the reference -/
def pcm (g : Nat → Option Nat) (σ : fr_St) : Prop := (∀ c, c < 32 → σ 7 c = nI (ouS (g c)) ∧ σ 8 c = nI ((g c).getD 0)) ∧ σ 0 11 = nI (su (fun c => ouS (g c)) 32)
/-- the reference's fields that no reading of the pane changes -/
def mfr (σ σ' : fr_St) : Prop := (∀ q, q ≠ 0 → q ≠ 7 → q ≠ 8 → σ' q = σ q) ∧ ∀ j, j ≠ 7 → j ≠ 11 → j ≠ 12 → j ≠ 13 → σ' 0 j = σ 0 j
theorem mfr_tr {a b c : fr_St} (h : mfr a b) (k : mfr b c) : mfr a c := ⟨fun q x y z => (k.1 q x y z).trans (h.1 q x y z), fun j x y z w => (k.2 j x y z w).trans (h.2 j x y z w)⟩
theorem mfr_rf {a : fr_St} : mfr a a := ⟨fun _ _ _ _ => rfl, fun _ _ _ _ _ => rfl⟩
theorem mfr_f {σ σ' : fr_St} (h : mfr σ σ') {j : Nat} (hj : j = 7 ∨ j = 11 ∨ j = 12 ∨ j = 13) {v : Int32} : mfr σ (fr_put σ' 0 j v) :=
  ⟨fun q x y z => by rw [fr_put_at, if_neg x]; exact h.1 q x y z, fun i x y z w => by rw [fr_put_at, if_pos rfl, upd_at, if_neg (by omega)]; exact h.2 i x y z w⟩
theorem mc_clears (σ : fr_St) : ∃ σ', zX10_clears σ = some σ' ∧ pcm (fun _ => none) σ' ∧ σ' 0 12 = 0 ∧ σ' 0 13 = 0 ∧ σ' 0 7 = σ 0 7 ∧ mfr σ σ' := by
  unfold zX10_clears
  obtain ⟨z, hz, hf, hc⟩ := lp_fu (body := fun (b1 : Int32 × fr_St) => zX10_clears_L2 b1.1 b1.2)
    (fun i b => ∃ σ', b = (nI i, σ') ∧ (∀ q, q ≠ 7 → q ≠ 8 → σ' q = σ q) ∧ ∀ c, c < i → σ' 7 c = 0 ∧ σ' 8 c = 0)
    (fun σ' => (∀ q, q ≠ 7 → q ≠ 8 → σ' q = σ q) ∧ ∀ c, c < 32 → σ' 7 c = 0 ∧ σ' 8 c = 0) 32 (by omega)
    (fun i b hi hI => by
      obtain ⟨σ', rfl, hf, hc⟩ := hI
      left
      show ∃ b', zX10_clears_L2 (nI i) σ' = _ ∧ _
      unfold zX10_clears_L2
      rw [if_neg (show ¬ 32 ≤ nI i from nI_ge (b := 32) hi (by decide)), fr_as_nI hi (by decide), Option.bind_some, fr_as_nI hi (by decide), Option.bind_some]
      refine ⟨_, rfl, _, by rw [nI_1], fun q a b => by rw [fr_put_at, if_neg b, fr_put_at, if_neg a]; exact hf q a b, fun c hc' => ?_⟩
      by_cases e : c = i
      · simp [fr_put_at, upd_at, e]
      · simpa [fr_put_at, upd_at, e] using hc c (by omega))
    (fun b hI => by
      obtain ⟨σ', rfl, hf, hc⟩ := hI
      refine ⟨σ', ?_, hf, hc⟩
      show zX10_clears_L2 (nI 32) σ' = _
      unfold zX10_clears_L2
      rw [if_pos (by decide)])
    0 (0, σ) (by omega) ⟨σ, rfl, fun _ _ _ => rfl, fun c hc => by omega⟩
  rw [hz, Option.bind_some]
  refine ⟨_, rfl, ⟨fun c h => ?_, ?_⟩, ?_, ?_, ?_, ?_⟩
  · simp only [fr_put_at]
    have := hc c h
    simpa [ouS, nI_0] using this
  · simp [fr_put_at, upd_at, ouS, su_z, nI_0]
  · simp [fr_put_at, upd_at]
  · simp [fr_put_at, upd_at]
  · simp [fr_put_at, upd_at, hf 0]
  · exact mfr_f (mfr_f (mfr_f ⟨fun q a b c => hf q b c, fun j _ _ _ _ => by rw [hf 0 (by decide) (by decide)]⟩ (by omega)) (by omega)) (by omega)
theorem wi_dig2 {t : Nat} (h : t ≤ 255) : zX9_within (nI t - 48) 0 9 = if 48 ≤ t ∧ t ≤ 57 then 1 else 0 := by
  by_cases h1 : t < 48
  · unfold zX9_within
    rw [if_pos (show nI t - 48 < 0 from pk_sneg (b := 48) (by decide) h1), if_neg (by omega)]
  · rw [show nI t - 48 = nI (t - 48) from pk_sub (b := 48) (by omega)]
    by_cases h2 : t ≤ 57
    · rw [show zX9_within (nI (t - 48)) 0 9 = 1 from wi_nI (m := 9) (by omega) (by decide), if_pos (by omega)]
    · unfold zX9_within
      rw [if_neg (nI_pos (by omega)), if_pos (show (9 : Int32) < nI (t - 48) from nI_lt (a := 9) (by omega) (by omega)), if_neg (by omega)]
theorem mp_add {g : Nat → Option Nat} {σ : fr_St} {k v : Nat} (hp : pcm g σ) (hk : k < 32) (hg : g k = none) {a b : Int32} (h11 : a = nI (su (fun c => ouS (g c)) 32) + 1) : pcm (upO g k v) (fr_put (fr_put (fr_put (fr_put σ 7 k 1) 8 k (nI v)) 0 11 a) 0 7 b) := by
  obtain ⟨p1, p2⟩ := hp
  have s1 : su (fun c => ouS (upO g k v c)) 32 = su (fun c => ouS (g c)) 32 + 1 := by
    have := su_upd (f := fun c => ouS (g c)) (p := k) (v := 1) (n := 32) hk
    rw [hg] at this
    rw [← show su (fun i => if i = k then 1 else ouS (g i)) 32 + ouS none = su (fun c => ouS (g c)) 32 + 1 from this]
    show _ = su _ 32 + 0
    rw [Nat.add_zero]
    exact su_congr (fun i _ => by unfold upO; by_cases h : i = k <;> simp [h, ouS])
  refine ⟨fun c hc => ?_, ?_⟩
  · have := p1 c hc
    unfold upO
    by_cases h : c = k
    · simp [fr_put_at, upd_at, h, ouS]; rfl
    · simpa [fr_put_at, upd_at, h] using this
  · rw [s1, ← nI_1, ← h11]
    simp [fr_put_at, upd_at]
theorem mp_row {T : Nat → Nat} {n : Nat} {σ : fr_St} {i0 r wd : Nat} {g0 : Nat → Option Nat} (hn : n ≤ 35) (hn0 : 0 < n) (hT : ∀ j, j < 35 → T j ≤ 255) (hsz : σ 6 0 = nI n) (hb : ∀ j, j < 35 → σ 5 j = nI (T j))
    (hi0 : i0 ≤ n) (hr4 : r ≤ 4) (hwd : r ≠ 0 → 0 < wd) (hw8 : wd ≤ 8) (h7 : σ 0 7 = nI i0) (h13 : σ 0 13 = nI r) (h12 : σ 0 12 = nI wd) (hp : pcm g0 σ) (hfr : ∀ k, 8 * r ≤ k → g0 k = none) (hlp : pn_lp T (n - i0) i0 r 0 (if r = 0 then 8 else wd) g0 = pn T n) :
    ∃ f σ', zX10_readsRow σ = some (f, σ') ∧ mfr σ σ' ∧ ((f = 0 ∧ ∃ i, i ≤ 35 ∧ σ' 0 7 = nI i ∧ pn T n = (some i, 0, 0, fun _ => none)) ∨
      (f = 1 ∧ ∃ i c g, i ≤ n ∧ (i < n → T i = 59) ∧ 0 < c ∧ c ≤ 8 ∧ r < 4 ∧ σ' 0 7 = nI i ∧ σ' 0 13 = nI (r + 1) ∧ σ' 0 12 = nI c ∧ pcm g σ' ∧ (∀ k, 8 * (r + 1) ≤ k → g k = none) ∧ pn_me r c (if r = 0 then 8 else wd) = true ∧ c = (if r = 0 then c else wd) ∧ pn_lp T (n - i) i r c (if r = 0 then 8 else wd) g = pn T n)) := by
  unfold zX10_readsRow
  have e1 : (if σ 0 13 = 0 then 8 else σ 0 12) = nI (if r = 0 then 8 else wd) := by
    rw [h13, h12]
    by_cases h0 : r = 0
    · rw [if_pos (by rw [h0]; rfl), if_pos h0]; rfl
    · rw [if_neg (nI_ne0 (by omega) (by omega)), if_neg h0]
  rw [Option.bind_some, e1]
  generalize hw : (if r = 0 then 8 else wd) = w at *
  have w8 : w ≤ 8 := by subst hw; split <;> omega
  have w0 : 0 < w := by
    subst hw
    split
    · omega
    · exact hwd (by assumption)
  obtain ⟨z, hz, σ', hf, s12, s13, hQ⟩ := lp_fu (body := fun (b2 : Int32 × fr_St) => zX10_readsRow_L19 (nI w) b2.1 b2.2)
    (fun i b => ∃ c g σ', b = (nI c, σ') ∧ mfr σ σ' ∧ σ' 0 7 = nI i ∧ σ' 0 13 = nI r ∧ σ' 0 12 = nI wd ∧ pcm g σ' ∧ c ≤ w ∧ (0 < c → r < 4) ∧ (∀ k, 8 * r + c ≤ k → g k = none) ∧ pn_lp T (n - i) i r c w g = pn T n)
    (fun z => ∃ σ', mfr σ σ' ∧ σ' 0 12 = nI wd ∧ σ' 0 13 = nI r ∧ ((∃ i, i ≤ 35 ∧ σ' 0 7 = nI i ∧ z = .inl (0, σ') ∧ pn T n = (some i, 0, 0, fun _ => none)) ∨ ∃ i c g, i ≤ n ∧ (i < n → T i = 59) ∧ σ' 0 7 = nI i ∧ z = .inr (nI c, σ') ∧ pcm g σ' ∧ c ≤ w ∧ (0 < c → r < 4) ∧ (∀ k, 8 * r + c ≤ k → g k = none) ∧ pn_lp T (n - i) i r c w g = pn T n)) n (by omega)
    (fun i b hi hI => by
      obtain ⟨c, g, σ', rfl, hf, s7, s13, s12, hp, hcw, hcr, hfr, hlp⟩ := hI
      have hti := hT i (by omega)
      show (∃ b', zX10_readsRow_L19 (nI w) (nI c) σ' = _ ∧ _) ∨ ∃ c', zX10_readsRow_L19 (nI w) (nI c) σ' = _ ∧ _
      unfold zX10_readsRow_L19
      rw [al20, Option.bind_some, hf.1 6 (by decide) (by decide) (by decide), hsz, s7, if_neg (nI_ge hi (by omega)), fr_al_nI (show i < 80 by omega) (by decide), Option.bind_some, Option.bind_some, hf.1 5 (by decide) (by decide) (by decide), hb i (by omega), s13, in_0_9, wi_dig2 hti]
      by_cases h59 : T i = 59
      · rw [if_pos (show nI (T i) = 59 by rw [h59]; rfl)]
        exact Or.inr ⟨_, rfl, σ', hf, s12, s13, Or.inr ⟨i, c, g, by omega, fun _ => h59, s7, rfl, hp, hcw, hcr, hfr, hlp⟩⟩
      · rw [if_neg (show ¬ nI (T i) = 59 by rw [show (59 : Int32) = nI 59 from rfl, nI_eq (by omega) (by omega)]; exact h59)]
        obtain ⟨k, hk⟩ : ∃ k, n - i = k + 1 := ⟨n - i - 1, by omega⟩
        have hk' : n - (i + 1) = k := by omega
        rw [hk] at hlp
        rw [hk']
        simp only [pn_lp] at hlp
        rw [if_neg h59] at hlp
        by_cases h4 : r = 4
        · rw [if_neg (by omega)] at hlp
          rw [if_pos (by rw [h4]; rfl)]
          exact Or.inr ⟨_, rfl, σ', hf, s12, s13, Or.inl ⟨i, by omega, s7, rfl, hlp.symm⟩⟩
        rw [if_neg (by rw [show (4 : Int32) = nI 4 from rfl, nI_eq (by omega) (by omega)]; exact h4)]
        by_cases hcw' : c = w
        · rw [if_neg (by omega)] at hlp
          rw [if_pos (by rw [hcw'])]
          exact Or.inr ⟨_, rfl, σ', hf, s12, s13, Or.inl ⟨i, by omega, s7, rfl, hlp.symm⟩⟩
        rw [if_neg (by rw [nI_eq (by omega) (by omega)]; exact hcw')]
        by_cases hd : 48 ≤ T i ∧ T i ≤ 57
        · rw [if_pos ⟨hd.1, hd.2, by omega, by omega⟩] at hlp
          rw [if_pos hd, if10, show (8 : Int32) * nI r + nI c = nI (8 * r + c) by rw [show (8 : Int32) = nI 8 from rfl, pk_mul, nI_add], fr_as_nI (show 8 * r + c < 32 by omega) (by decide), Option.bind_some]
          rw [show (fr_put σ' 7 (8 * r + c) 1) 0 13 = nI r from s13, show (8 : Int32) * nI r + nI c = nI (8 * r + c) by rw [show (8 : Int32) = nI 8 from rfl, pk_mul, nI_add], fr_as_nI (show 8 * r + c < 32 by omega) (by decide), Option.bind_some, show nI (T i) - 48 = nI (T i - 48) from pk_sub (b := 48) hd.1]
          refine Or.inl ⟨_, rfl, c + 1, upO g (8 * r + c) (T i - 48), fr_put (fr_put (fr_put (fr_put σ' 7 (8 * r + c) 1) 8 (8 * r + c) (nI (T i - 48))) 0 11 (σ' 0 11 + 1)) 0 7 (σ' 0 7 + 1), by rw [nI_1]; rfl, ?_, ?_, ?_, ?_, mp_add hp (by omega) (hfr _ (Nat.le_refl _)) (congrArg (· + 1) hp.2), by omega, fun _ => by omega, fun k hk => by unfold upO; rw [if_neg (by omega)]; exact hfr k (by omega), hlp⟩
          · refine mfr_f (mfr_f ⟨fun q x y z => ?_, fun j x y z w => ?_⟩ (by omega)) (by omega)
            · rw [fr_put_at, if_neg z, fr_put_at, if_neg y]; exact hf.1 q x y z
            · rw [fr_put_at, if_neg (by decide), fr_put_at, if_neg (by decide)]; exact hf.2 j x y z w
          · simp [fr_put_at, upd_at, s7, nI_1]
          · simpa [fr_put_at, upd_at] using s13
          · simpa [fr_put_at, upd_at] using s12
        · rw [if_neg (by omega)] at hlp
          rw [if_neg hd, if00]
          exact Or.inr ⟨_, rfl, σ', hf, s12, s13, Or.inl ⟨i, by omega, s7, rfl, hlp.symm⟩⟩)
    (fun b hI => by
      obtain ⟨c, g, σ', rfl, hf, s7, s13, s12, hp, hcw, hcr, hfr, hlp⟩ := hI
      show ∃ c', zX10_readsRow_L19 (nI w) (nI c) σ' = _ ∧ _
      unfold zX10_readsRow_L19
      rw [al20, Option.bind_some, hf.1 6 (by decide) (by decide) (by decide), hsz, s7, if_pos (nI_le (Nat.le_refl _) (by omega))]
      exact ⟨_, rfl, σ', hf, s12, s13, Or.inr ⟨n, c, g, by omega, fun h => by omega, s7, rfl, hp, hcw, hcr, hfr, hlp⟩⟩)
    i0 (0, σ) hi0 ⟨0, g0, σ, rfl, mfr_rf, h7, h13, h12, hp, by omega, fun h => by omega, hfr, hlp⟩
  rw [hz, Option.bind_some]
  rcases hQ with ⟨i, hi, s7, rfl, hpn⟩ | ⟨i, c, g, hin, h59, s7, rfl, hp', hcw, hcr, hfr', hlp'⟩
  · exact ⟨0, σ', rfl, hf, Or.inl ⟨rfl, i, hi, s7, hpn⟩⟩
  · show ∃ f σ'', (if nI c = 0 then some (0, σ') else if σ' 0 13 ≤ 0 then some (1, (fr_put (fr_put σ' 0 12 (nI c)) 0 13 (((fr_put σ' 0 12 (nI c)) 0 13) + 1))) else if σ' 0 12 ≤ nI c then some (1, (fr_put (fr_put σ' 0 12 (nI c)) 0 13 (((fr_put σ' 0 12 (nI c)) 0 13) + 1))) else some (0, σ')) = _ ∧ _
    have hbad : pn_me r c w = false → ∃ i, i ≤ 35 ∧ σ' 0 7 = nI i ∧ pn T n = (some i, 0, 0, fun _ => none) := fun hme => by
      refine ⟨i, by omega, s7, ?_⟩
      rw [← hlp']
      rcases Nat.lt_or_ge i n with h | h
      · obtain ⟨k, hk⟩ : ∃ k, n - i = k + 1 := ⟨n - i - 1, by omega⟩
        rw [hk]
        simp only [pn_lp]
        rw [if_pos (h59 h), if_neg (by rw [hme]; decide)]
      · rw [show n - i = 0 by omega]
        simp only [pn_lp]
        rw [if_neg (by omega), if_neg (by rw [hme]; decide)]
    have hgood : 0 < c → pn_me r c w = true → c = (if r = 0 then c else wd) → ∃ i' c' g', i' ≤ n ∧ (i' < n → T i' = 59) ∧ 0 < c' ∧ c' ≤ 8 ∧ r < 4 ∧ (fr_put (fr_put σ' 0 12 (nI c)) 0 13 (((fr_put σ' 0 12 (nI c)) 0 13) + 1)) 0 7 = nI i' ∧ (fr_put (fr_put σ' 0 12 (nI c)) 0 13 (((fr_put σ' 0 12 (nI c)) 0 13) + 1)) 0 13 = nI (r + 1) ∧ (fr_put (fr_put σ' 0 12 (nI c)) 0 13 (((fr_put σ' 0 12 (nI c)) 0 13) + 1)) 0 12 = nI c' ∧ pcm g' (fr_put (fr_put σ' 0 12 (nI c)) 0 13 (((fr_put σ' 0 12 (nI c)) 0 13) + 1)) ∧ (∀ k, 8 * (r + 1) ≤ k → g' k = none) ∧ pn_me r c' w = true ∧ c' = (if r = 0 then c' else wd) ∧ pn_lp T (n - i') i' r c' w g' = pn T n := fun h0 hme hcc => by
      refine ⟨i, c, g, hin, h59, h0, by omega, hcr h0, ?_, ?_, ?_, ?_, fun k hk => hfr' k (by omega), hme, hcc, hlp'⟩
      · simpa [fr_put_at, upd_at] using s7
      · simp [fr_put_at, upd_at, s13, nI_1]
      · simp [fr_put_at, upd_at]
      · exact ⟨fun c hc => hp'.1 c hc, hp'.2⟩
    by_cases hc0 : c = 0
    · rw [if_pos (by rw [hc0]; rfl)]
      refine ⟨0, σ', rfl, hf, Or.inl ⟨rfl, hbad ?_⟩⟩
      unfold pn_me
      rw [hc0]
      by_cases hr0 : r = 0
      · rw [if_pos hr0]; decide
      · rw [if_neg hr0, show decide (0 = w) = false from decide_eq_false (by omega), Bool.and_false]
    · rw [if_neg (nI_ne0 (by omega) (by omega)), s13, s12]
      by_cases hr0 : r = 0
      · rw [if_pos (by rw [hr0]; decide)]
        refine ⟨1, _, rfl, mfr_f (mfr_f hf (by omega)) (by omega), Or.inr ⟨rfl, hgood (by omega) ?_ ?_⟩⟩
        · unfold pn_me
          rw [if_pos hr0]; exact decide_eq_true (by omega)
        · rw [if_pos hr0]
      · have hwwd : w = wd := by rw [← hw, if_neg hr0]
        rw [if_neg (nI_nle (by omega) (by omega))]
        by_cases hcc : c = wd
        · rw [if_pos (nI_le (by omega) (by omega))]
          refine ⟨1, _, rfl, mfr_f (mfr_f hf (by omega)) (by omega), Or.inr ⟨rfl, hgood (by omega) ?_ ?_⟩⟩
          · unfold pn_me
            rw [if_neg hr0, decide_eq_true (hcr (by omega)), decide_eq_true (show c = w by omega)]; rfl
          · rw [if_neg hr0]; exact hcc
        · rw [if_neg (nI_ge (by omega) (by omega))]
          refine ⟨0, σ', rfl, hf, Or.inl ⟨rfl, hbad ?_⟩⟩
          unfold pn_me
          rw [if_neg hr0, show decide (c = w) = false from decide_eq_false (by omega), Bool.and_false]
theorem mp_pane {T : Nat → Nat} {n : Nat} {σ : fr_St} (hn : n ≤ 35) (hT : ∀ j, j < 35 → T j ≤ 255) (hsz : σ 6 0 = nI n) (hb : ∀ j, j < 35 → σ 5 j = nI (T j)) :
    ∃ σ', zX10_readsPane σ = some (oI (pn T n).1, σ') ∧ pcm (pn T n).2.2.2 σ' ∧ σ' 0 12 = nI (pn T n).2.2.1 ∧ σ' 0 13 = nI (pn T n).2.1 ∧ mfr σ σ' := by
  unfold zX10_readsPane
  obtain ⟨σ1, e1, p1, a12, a13, a7, f1⟩ := mc_clears σ
  rw [e1, Option.bind_some, al20, Option.bind_some, Option.bind_some, show (fr_put σ1 0 7 0) 6 0 = nI n from (congrFun (f1.1 6 (by decide) (by decide) (by decide)) 0).trans hsz]
  have f1' : mfr σ (fr_put σ1 0 7 0) := mfr_f f1 (by omega)
  have p1' : pcm (fun _ => none) (fr_put σ1 0 7 0) := ⟨fun c hc => p1.1 c hc, p1.2⟩
  obtain ⟨z, hz, σ', hf, hQ⟩ := lp_fu (body := fun (b4 : Int32 × fr_St) => zX10_readsPane_L24 b4.1 b4.2)
    (fun r b => ∃ σ', mfr σ σ' ∧ ((b = (0, σ') ∧ ∃ w g, pn T n = (none, r, w, g) ∧ pcm g σ' ∧ σ' 0 12 = nI w ∧ σ' 0 13 = nI r) ∨
      (b = (1, σ') ∧ 0 < n ∧ r ≤ 4 ∧ ∃ i wd g, i ≤ n ∧ (r ≠ 0 → 0 < wd) ∧ wd ≤ 8 ∧ σ' 0 7 = nI i ∧ σ' 0 13 = nI r ∧ σ' 0 12 = nI wd ∧ pcm g σ' ∧ (∀ k, 8 * r ≤ k → g k = none) ∧ pn_lp T (n - i) i r 0 (if r = 0 then 8 else wd) g = pn T n)))
    (fun z => ∃ σ', mfr σ σ' ∧ ((z = .inr σ' ∧ ∃ r w g, pn T n = (none, r, w, g) ∧ pcm g σ' ∧ σ' 0 12 = nI w ∧ σ' 0 13 = nI r) ∨ ∃ i, z = .inl (nI i, σ') ∧ pn T n = (some i, 0, 0, fun _ => none) ∧ pcm (fun _ => none) σ' ∧ σ' 0 12 = 0 ∧ σ' 0 13 = 0)) 5 (by omega)
    (fun r b hi hI => by
      obtain ⟨σ', hf, ⟨rfl, w, g, h⟩ | ⟨rfl, hn0, hr4, i, wd, g, hin, hwd, hw8, s7, s13, s12, hp, hfr, hlp⟩⟩ := hI
      · right
        exact ⟨.inr σ', rfl, σ', hf, Or.inl ⟨rfl, r, w, g, h⟩⟩
      · show (∃ b', zX10_readsPane_L24 1 σ' = _ ∧ _) ∨ ∃ c', zX10_readsPane_L24 1 σ' = _ ∧ _
        unfold zX10_readsPane_L24
        obtain ⟨f, σ2, e2, f2, h2⟩ := mp_row (σ := σ') hn hn0 hT (by rw [hf.1 6 (by decide) (by decide) (by decide)]; exact hsz) (fun j hj => by rw [hf.1 5 (by decide) (by decide) (by decide)]; exact hb j hj) hin hr4 hwd hw8 s7 s13 s12 hp hfr hlp
        rw [if10, e2, Option.bind_some]
        have f3 := mfr_tr hf f2
        rcases h2 with ⟨rfl, j, hj, t7, hpn⟩ | ⟨rfl, j, c, g', hjn, h59, hc0, hc8, hr4', t7, t13, t12, hp', hfr', hme, hcc, hlp'⟩
        · obtain ⟨σ5, e5, p5, b12, b13, b7, f5⟩ := mc_clears σ2
          right
          rw [if_pos rfl]
          show ∃ c', (zX10_clears σ2).bind _ = _ ∧ _
          rw [e5, Option.bind_some, b7, t7]
          exact ⟨_, rfl, σ5, mfr_tr f3 f5, Or.inr ⟨j, rfl, hpn, p5, b12, b13⟩⟩
        · left
          rw [if_neg (show ¬ (1 : Int32) = 0 by decide)]
          dsimp only
          rw [al20, Option.bind_some, f3.1 6 (by decide) (by decide) (by decide), hsz, Option.bind_some]
          rcases Nat.lt_or_ge j n with h | h
          · rw [if_neg (show ¬ nI n ≤ σ2 0 7 by rw [t7]; exact nI_ge h (by omega)), if10, t7, nI_1]
            obtain ⟨k, hk⟩ : ∃ k, n - j = k + 1 := ⟨n - j - 1, by omega⟩
            have hk' : n - (j + 1) = k := by omega
            rw [hk] at hlp'
            simp only [pn_lp] at hlp'
            rw [if_pos (h59 h), if_pos hme] at hlp'
            refine ⟨_, rfl, _, mfr_f f3 (by omega), Or.inr ⟨rfl, hn0, by omega, j + 1, c, g', by omega, fun _ => hc0, hc8, ?_, ?_, ?_, ⟨fun c hc => hp'.1 c hc, hp'.2⟩, hfr', ?_⟩⟩
            · simp [fr_put_at, upd_at]
            · simpa [fr_put_at, upd_at] using t13
            · simpa [fr_put_at, upd_at] using t12
            · rw [hk', if_neg (by omega), ← hlp']
              congr 1
              by_cases hr0 : r = 0
              · rw [if_pos hr0]
              · rw [if_neg hr0] at hcc ⊢
                rw [if_neg hr0]; exact hcc
          · rw [if_pos (show nI n ≤ σ2 0 7 by rw [t7]; exact nI_le h (by omega)), if00]
            rw [show n - j = 0 by omega] at hlp'
            simp only [pn_lp] at hlp'
            rw [if_neg (by omega), if_pos hme] at hlp'
            refine ⟨_, rfl, _, mfr_f f3 (by omega), Or.inl ⟨rfl, c, g', ?_, ⟨fun c hc => hp'.1 c hc, hp'.2⟩, ?_, ?_⟩⟩
            · rw [← hlp']
              congr 3
              by_cases hr0 : r = 0
              · rw [if_pos hr0]
              · rw [if_neg hr0] at hcc ⊢
                rw [if_neg hr0]; exact hcc.symm
            · simpa [fr_put_at, upd_at] using t12
            · simpa [fr_put_at, upd_at] using t13)
    (fun b hI => by
      obtain ⟨σ', hf, ⟨rfl, w, g, h⟩ | ⟨rfl, hn0, hr4, _⟩⟩ := hI
      · exact ⟨.inr σ', rfl, σ', hf, Or.inl ⟨rfl, 5, w, g, h⟩⟩
      · omega)
    0 (if nI n ≤ 0 then 0 else 1, fr_put σ1 0 7 0) (by omega) ⟨_, f1', by
      by_cases hn0 : n = 0
      · left
        rw [if_pos (by rw [hn0]; decide)]
        refine ⟨rfl, 0, fun _ => none, ?_, p1', a12, a13⟩
        rw [hn0]; rfl
      · right
        rw [if_neg (nI_nle (by omega) (by omega))]
        exact ⟨rfl, by omega, by omega, 0, 0, fun _ => none, by omega, fun h => absurd rfl h, by omega, by simp [fr_put_at, upd_at, nI_0], a13, a12, p1', fun _ _ => rfl, rfl⟩⟩
  rw [hz, Option.bind_some]
  rcases hQ with ⟨rfl, r, w, g, h, hp, h12, h13⟩ | ⟨i, rfl, h, hp, h12, h13⟩
  · rw [h]
    exact ⟨σ', rfl, hp, h12, h13, hf⟩
  · rw [h]
    exact ⟨σ', rfl, hp, h12.trans nI_0.symm, h13.trans nI_0.symm, hf⟩
