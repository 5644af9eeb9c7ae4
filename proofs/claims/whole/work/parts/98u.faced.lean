/-! faced -/
/-- the cells that there are, while the pane is read -/
def ps_i (r c w : Nat) (g : Nat → Option Nat) : Prop := r ≤ 4 ∧ c ≤ w ∧ w ≤ 8 ∧ 0 < w ∧ (r = 0 → w = 8) ∧ ∀ r' c', c' < 8 → (g (8 * r' + c') ≠ none ↔ (r' < r ∧ c' < w) ∨ (r' = r ∧ c' < c))
/-- the cells that there are, when it is read -/
def ps_e (R W : Nat) (g : Nat → Option Nat) : Prop := R ≤ 4 ∧ W ≤ 8 ∧ (0 < R → 0 < W) ∧ ∀ r' c', c' < 8 → (g (8 * r' + c') ≠ none ↔ r' < R ∧ c' < W)
theorem me_of {r c w : Nat} (h : pn_me r c w = true) : (r = 0 ∧ 0 < c) ∨ (0 < r ∧ r < 4 ∧ c = w) := by
  unfold pn_me at h
  by_cases e : r = 0
  · rw [if_pos e] at h
    exact Or.inl ⟨e, of_decide_eq_true h⟩
  · rw [if_neg e] at h
    have := Bool.and_eq_true_iff.mp h
    exact Or.inr ⟨by omega, of_decide_eq_true this.1, of_decide_eq_true this.2⟩
theorem ps_none : ps_e 0 0 (fun _ => none) := ⟨by omega, by omega, fun h => h, fun r' c' _ => by simp⟩
theorem ps_lp {T : Nat → Nat} : ∀ (k i r c w : Nat) (g : Nat → Option Nat), (i = 0 → r = 0 ∧ c = 0) → ps_i r c w g → ps_e (pn_lp T k i r c w g).2.1 (pn_lp T k i r c w g).2.2.1 (pn_lp T k i r c w g).2.2.2
  | 0, i, r, c, w, g, hi, h => by
    obtain ⟨h1, h2, h3, h4, h5, h6⟩ := h
    unfold pn_lp
    by_cases i0 : i = 0
    · rw [if_pos i0]
      obtain ⟨rfl, rfl⟩ := hi i0
      dsimp only
      exact ⟨by omega, by omega, fun h => h, fun r' c' hc => by rw [h6 r' c' hc]; omega⟩
    · rw [if_neg i0]
      by_cases hm : pn_me r c w = true
      · rw [if_pos hm]
        dsimp only
        rcases me_of hm with ⟨e, hc⟩ | ⟨e1, e2, e3⟩
        · rw [if_pos e]
          exact ⟨by omega, by omega, fun _ => hc, fun r' c' hc' => by rw [h6 r' c' hc']; omega⟩
        · rw [if_neg (by omega)]
          exact ⟨by omega, h3, fun _ => h4, fun r' c' hc' => by rw [h6 r' c' hc']; omega⟩
      · rw [if_neg hm]
        exact ps_none
  | k + 1, i, r, c, w, g, hi, h => by
    obtain ⟨h1, h2, h3, h4, h5, h6⟩ := h
    unfold pn_lp
    by_cases h59 : T i = 59
    · rw [if_pos h59]
      by_cases hm : pn_me r c w = true
      · rw [if_pos hm]
        refine ps_lp k (i + 1) (r + 1) 0 _ g (fun h => by omega) ?_
        rcases me_of hm with ⟨e, hc⟩ | ⟨e1, e2, e3⟩
        · rw [if_pos e]
          exact ⟨by omega, by omega, by omega, hc, fun h => by omega, fun r' c' hc' => by rw [h6 r' c' hc']; omega⟩
        · rw [if_neg (by omega)]
          exact ⟨by omega, by omega, h3, h4, fun h => by omega, fun r' c' hc' => by rw [h6 r' c' hc']; omega⟩
      · rw [if_neg hm]
        exact ps_none
    · rw [if_neg h59]
      by_cases hd : 48 ≤ T i ∧ T i ≤ 57 ∧ r < 4 ∧ c < w
      · rw [if_pos hd]
        refine ps_lp k (i + 1) r (c + 1) w _ (fun h => by omega) ⟨h1, by omega, h3, h4, h5, fun r' c' hc' => ?_⟩
        unfold upO
        by_cases e : 8 * r' + c' = 8 * r + c
        · rw [if_pos e]
          have e1 : r' = r := by omega
          have e2 : c' = c := by omega
          exact ⟨fun _ => Or.inr ⟨e1, by omega⟩, fun _ => by simp⟩
        · rw [if_neg e, h6 r' c' hc']
          omega
      · rw [if_neg hd]
        exact ps_none
theorem ps_pn {T : Nat → Nat} {n : Nat} : ps_e (pn T n).2.1 (pn T n).2.2.1 (pn T n).2.2.2 :=
  ps_lp n 0 0 0 8 _ (fun _ => ⟨rfl, rfl⟩) ⟨by omega, by omega, by omega, by omega, fun _ => rfl, fun r' c' _ => by simp⟩
/-- whether some cell below n is such -/
def an (p : Nat → Bool) : Nat → Bool
  | 0 => false
  | n + 1 => an p n || p n
theorem an_ext {p : Nat → Bool} {a : Nat} : ∀ {d : Nat}, (∀ c, a ≤ c → c < a + d → p c = false) → an p (a + d) = an p a
  | 0, _ => rfl
  | d + 1, h => by
    show (an p (a + d) || p (a + d)) = an p a
    rw [h (a + d) (by omega) (by omega), Bool.or_false]
    exact an_ext (fun c x y => h c x (by omega))
theorem an_up {p : Nat → Bool} {c : Nat} (h : p c = true) : ∀ {n : Nat}, c < n → an p n = true
  | 0, hc => by omega
  | n + 1, hc => by
    unfold an
    by_cases e : c = n
    · rw [← e, h, Bool.or_true]
    · rw [an_up h (n := n) (by omega)]; rfl
def i_d (b : Bool) : Int32 := if b then 1 else 0
def fup (g : Nat → Option Nat) (c : Nat) : Bool := decide (c % 8 ≠ 0 ∧ g c ≠ none ∧ (g (c - 1)).getD 0 < (g c).getD 0)
def fdn (g : Nat → Option Nat) (c : Nat) : Bool := decide (c % 8 ≠ 0 ∧ g c ≠ none ∧ (g c).getD 0 < (g (c - 1)).getD 0)
theorem x_steps {g : Nat → Option Nat} {σ : fr_St} {R W : Nat} {k1 : Int32} {bad go : Nat → Bool} (hp : ps_e R W g) (h6 : ∀ c, c < 32 → σ 6 c = oI (g c)) (h9 : ∀ c, (g c).getD 0 ≤ 9)
    (hz : ∀ c, c < 32 → (c % 8 = 0 ∨ g c = none) → bad c = false ∧ go c = false)
    (hb : ∀ c, c < 32 → c % 8 ≠ 0 → g c ≠ none → (0 ≤ k1 * (nI ((g c).getD 0) - nI ((g (c - 1)).getD 0)) ↔ bad c = false) ∧ (k1 * (nI ((g c).getD 0) - nI ((g (c - 1)).getD 0)) ≤ 0 ↔ go c = false)) :
    zX2_stepsUp σ k1 = some (if an bad 32 then 0 else i_d (an go 32)) := by
  unfold zX2_stepsUp
  obtain ⟨z, hz', hQ⟩ := lp_fu (body := fun (b1 : Int32 × Int32) => zX2_stepsUp_L4 σ k1 b1.1 b1.2)
    (fun i b => b = (i_d (an go (i + 1)), nI (i + 1)) ∧ an bad (i + 1) = false)
    (fun z => (z = .inl 0 ∧ an bad 32 = true) ∨ (z = .inr (i_d (an go 32)) ∧ an bad 32 = false)) 31 (by omega)
    (fun i b hi hI => by
      obtain ⟨rfl, hbd⟩ := hI
      show (∃ b', zX2_stepsUp_L4 σ k1 (i_d (an go (i + 1))) (nI (i + 1)) = _ ∧ _) ∨ ∃ c, zX2_stepsUp_L4 σ k1 (i_d (an go (i + 1))) (nI (i + 1)) = _ ∧ _
      have hc32 : i + 1 < 32 := by omega
      have ego : an go (i + 1 + 1) = (an go (i + 1) || go (i + 1)) := rfl
      have ebd : an bad (i + 1 + 1) = (an bad (i + 1) || bad (i + 1)) := rfl
      unfold zX2_stepsUp_L4
      rw [if_neg (show ¬ 32 ≤ nI (i + 1) from nI_ge (b := 32) hc32 (by decide)), show nI (i + 1) - nI (i + 1) / 8 * 8 = nI ((i + 1) % 8) from pk_rem (d := 8) (by omega) (by decide) (by decide), nI_1]
      by_cases e8 : (i + 1) % 8 = 0
      · left
        have hh := hz (i + 1) hc32 (Or.inl e8)
        rw [if_pos (by rw [e8]; rfl)]
        refine ⟨_, rfl, ?_, ?_⟩
        · rw [ego, hh.2, Bool.or_false]
        · rw [ebd, hbd, hh.1]; rfl
      · rw [if_neg (nI_ne0 (by omega) (by omega)), fr_al_nI hc32 (by decide), Option.bind_some, h6 _ hc32]
        cases hg : g (i + 1) with
        | none =>
          left
          have hh := hz (i + 1) hc32 (Or.inr hg)
          rw [if_pos (show oI none = -1 from rfl)]
          refine ⟨_, rfl, ?_, ?_⟩
          · rw [ego, hh.2, Bool.or_false]
          · rw [ebd, hbd, hh.1]; rfl
        | some v =>
          have hne : g (i + 1) ≠ none := by rw [hg]; simp
          have hh := hb (i + 1) hc32 e8 hne
          have h9' := h9 (i + 1)
          have hpre : g (i + 1 - 1) ≠ none := by
            have q1 := (hp.2.2.2 ((i + 1) / 8) ((i + 1) % 8) (by omega)).mp (by rw [show 8 * ((i + 1) / 8) + (i + 1) % 8 = i + 1 by omega]; exact hne)
            have q2 := (hp.2.2.2 ((i + 1) / 8) ((i + 1) % 8 - 1) (by omega)).mpr ⟨q1.1, by omega⟩
            rw [show 8 * ((i + 1) / 8) + ((i + 1) % 8 - 1) = i + 1 - 1 by omega] at q2
            exact q2
          rw [hg] at hh h9'
          have hv : v ≤ 9 := h9'
          rw [show oI (some v) = nI v from rfl, if_neg (nI_m1 (by omega)), Option.bind_some, nI_pred, fr_al_nI (show i < 32 by omega) (by decide), Option.bind_some, h6 i (by omega)]
          rw [Nat.add_sub_cancel] at hh hpre
          cases hg2 : g i with
          | none => exact absurd hg2 hpre
          | some u =>
            rw [hg2] at hh
            have hh1 : 0 ≤ k1 * (nI v - nI u) ↔ bad (i + 1) = false := hh.1
            have hh2 : k1 * (nI v - nI u) ≤ 0 ↔ go (i + 1) = false := hh.2
            rw [show oI (some u) = nI u from rfl]
            by_cases k : 0 ≤ k1 * (nI v - nI u)
            · left
              rw [if_pos k]
              have hbn : an bad (i + 1 + 1) = false := by rw [ebd, hbd, hh1.mp k]; rfl
              cases hgo : an go (i + 1) with
              | true =>
                rw [if_neg (show ¬ i_d true = 0 by decide)]
                exact ⟨_, rfl, by rw [ego, hgo]; rfl, hbn⟩
              | false =>
                rw [if_pos (show i_d false = 0 from rfl)]
                by_cases k2 : k1 * (nI v - nI u) ≤ 0
                · rw [if_pos k2]
                  exact ⟨_, rfl, by rw [ego, hgo, hh2.mp k2]; rfl, hbn⟩
                · rw [if_neg k2]
                  have : go (i + 1) = true := by
                    cases x : go (i + 1) with
                    | true => rfl
                    | false => exact absurd (hh2.mpr x) k2
                  exact ⟨_, rfl, by rw [ego, hgo, this]; rfl, hbn⟩
            · right
              rw [if_neg k]
              have : bad (i + 1) = true := by
                cases x : bad (i + 1) with
                | true => rfl
                | false => exact absurd (hh1.mpr x) k
              exact ⟨_, rfl, Or.inl ⟨rfl, an_up this hc32⟩⟩)
    (fun b hI => by
      obtain ⟨rfl, hbd⟩ := hI
      refine ⟨.inr (i_d (an go 32)), ?_, Or.inr ⟨rfl, hbd⟩⟩
      show zX2_stepsUp_L4 σ k1 (i_d (an go 32)) (nI 32) = _
      unfold zX2_stepsUp_L4
      rw [if_pos (by decide)])
    0 (0, 1) (by omega) (by
      have hh := hz 0 (by omega) (Or.inl rfl)
      refine ⟨?_, ?_⟩
      · show ((0 : Int32), (1 : Int32)) = (i_d (false || go 0), nI 1)
        rw [hh.2]; rfl
      · show (false || bad 0) = false
        rw [hh.1]; rfl)
  rw [hz', Option.bind_some]
  rcases hQ with ⟨rfl, h⟩ | ⟨rfl, h⟩
  · rw [h]; rfl
  · rw [h]
    cases an go 32
    · rfl
    · rfl
theorem sb_le {a b : Nat} (ha : a < 2 ^ 30) (hb : b < 2 ^ 30) : nI a - nI b ≤ 0 ↔ a ≤ b := by
  rw [Int32.le_iff_toInt_le, pk_sub_toInt ha hb]
  have e : (0 : Int32).toInt = 0 := by decide
  omega
theorem sb_ge {a b : Nat} (ha : a < 2 ^ 30) (hb : b < 2 ^ 30) : 0 ≤ nI a - nI b ↔ b ≤ a := by
  rw [Int32.le_iff_toInt_le, pk_sub_toInt ha hb]
  have e : (0 : Int32).toInt = 0 := by decide
  omega
theorem sb_neg (a b : Nat) : (-1 : Int32) * (nI a - nI b) = nI b - nI a := by
  rw [iI_n, iI_n, iI_s, iI_s, show (-1 : Int32) = iI (-1) from rfl, iI_m]
  congr 1
  omega
theorem x_faced {g : Nat → Option Nat} {σ : fr_St} {R W : Nat} (hp : ps_e R W g) (h6 : ∀ c, c < 32 → σ 6 c = oI (g c)) (h9 : ∀ c, (g c).getD 0 ≤ 9) :
    zX9_faced σ = some (if i_d (an (fup g) 32) = i_d (an (fdn g) 32) then -1 else if i_d (an (fup g) 32) = 0 then 1 else 0) := by
  have zz : ∀ c, (c % 8 = 0 ∨ g c = none) → fup g c = false ∧ fdn g c = false := fun c h => by
    unfold fup fdn
    refine ⟨decide_eq_false ?_, decide_eq_false ?_⟩ <;> rcases h with h | h
    · exact fun k => k.1 h
    · exact fun k => k.2.1 h
    · exact fun k => k.1 h
    · exact fun k => k.2.1 h
  have bu : ∀ c, c % 8 ≠ 0 → g c ≠ none → (fup g c = false ↔ (g c).getD 0 ≤ (g (c - 1)).getD 0) := fun c a b => by
    unfold fup
    rw [decide_eq_false_iff_not]
    exact ⟨fun k => Nat.not_lt.mp (fun l => k ⟨a, b, l⟩), fun k l => Nat.not_lt.mpr k l.2.2⟩
  have bd : ∀ c, c % 8 ≠ 0 → g c ≠ none → (fdn g c = false ↔ (g (c - 1)).getD 0 ≤ (g c).getD 0) := fun c a b => by
    unfold fdn
    rw [decide_eq_false_iff_not]
    exact ⟨fun k => Nat.not_lt.mp (fun l => k ⟨a, b, l⟩), fun k l => Nat.not_lt.mpr k l.2.2⟩
  have e1 := x_steps (σ := σ) (k1 := 1) (bad := fdn g) (go := fup g) hp h6 h9 (fun c _ h => ⟨(zz c h).2, (zz c h).1⟩) (fun c hc a b => by
    have p1 := h9 c
    have p2 := h9 (c - 1)
    rw [Int32.one_mul, sb_ge (by omega) (by omega), sb_le (by omega) (by omega), bu c a b, bd c a b]
    exact ⟨Iff.rfl, Iff.rfl⟩)
  have e2 := x_steps (σ := σ) (k1 := -1) (bad := fup g) (go := fdn g) hp h6 h9 (fun c _ h => zz c h) (fun c hc a b => by
    have p1 := h9 c
    have p2 := h9 (c - 1)
    rw [sb_neg, sb_ge (by omega) (by omega), sb_le (by omega) (by omega), bu c a b, bd c a b]
    exact ⟨Iff.rfl, Iff.rfl⟩)
  unfold zX9_faced
  rw [e1, Option.bind_some, e2, Option.bind_some]
  cases an (fup g) 32 <;> cases an (fdn g) 32 <;> rfl
theorem m_faced {g : Nat → Option Nat} {σ : fr_St} {R W : Nat} (hp : ps_e R W g) (h8 : ∀ c, c < 32 → σ 8 c = nI ((g c).getD 0)) (h9 : ∀ c, (g c).getD 0 ≤ 9) (h12 : σ 0 12 = nI W) (h13 : σ 0 13 = nI R) :
    zX10_facedNow σ = some (if i_d (an (fup g) 32) = i_d (an (fdn g) 32) then -1 else if i_d (an (fup g) 32) = 0 then 1 else 0) := by
  obtain ⟨hR, hW, hRW, hg⟩ := hp
  have none_of : ∀ r c, c < 8 → ¬ (r < R ∧ c < W) → g (8 * r + c) = none := fun r c hc h => by
    cases x : g (8 * r + c) with
    | none => rfl
    | some v => exact absurd ((hg r c hc).mp (by rw [x]; simp)) h
  have f0 : ∀ c, g c = none → fup g c = false ∧ fdn g c = false := fun c h => by
    unfold fup fdn
    exact ⟨decide_eq_false (fun k => k.2.1 h), decide_eq_false (fun k => k.2.1 h)⟩
  have f8 : ∀ c, c % 8 = 0 → fup g c = false ∧ fdn g c = false := fun c h => by
    unfold fup fdn
    exact ⟨decide_eq_false (fun k => k.1 h), decide_eq_false (fun k => k.1 h)⟩
  have inner : ∀ r, r < R → fr_loop (fun (b1 : Int32 × Int32 × Int32) => zX10_facedNow_L17 σ (nI r) b1.1 b1.2.1 b1.2.2) fr_fu (i_d (an (fup g) (8 * r)), i_d (an (fdn g) (8 * r)), 1) = some (i_d (an (fup g) (8 * (r + 1))), i_d (an (fdn g) (8 * (r + 1)))) := fun r hr => by
    have w0 := hRW (by omega)
    have hl := lp_seq (body := fun (b1 : Int32 × Int32 × Int32) => zX10_facedNow_L17 σ (nI r) b1.1 b1.2.1 b1.2.2) (fun i => (i_d (an (fup g) (8 * r + 1 + i)), i_d (an (fdn g) (8 * r + 1 + i)), nI (1 + i))) (W - 1) (i_d (an (fup g) (8 * (r + 1))), i_d (an (fdn g) (8 * (r + 1)))) (by omega) (fun i hi => by
        show zX10_facedNow_L17 σ (nI r) (i_d (an (fup g) (8 * r + 1 + i))) (i_d (an (fdn g) (8 * r + 1 + i))) (nI (1 + i)) = some (.inl (i_d (an (fup g) (8 * r + 1 + i) || fup g (8 * r + 1 + i)), i_d (an (fdn g) (8 * r + 1 + i) || fdn g (8 * r + 1 + i)), nI (1 + (i + 1))))
        have hne : g (8 * r + 1 + i) ≠ none := by
          have := (hg r (1 + i) (by omega)).mpr ⟨hr, by omega⟩
          rw [show 8 * r + (1 + i) = 8 * r + 1 + i by omega] at this
          exact this
        have hm8 : (8 * r + 1 + i) % 8 ≠ 0 := by omega
        have p1 := h9 (8 * r + 1 + i)
        have p2 := h9 (8 * r + i)
        have bu : fup g (8 * r + 1 + i) = decide ((g (8 * r + i)).getD 0 < (g (8 * r + 1 + i)).getD 0) := by
          unfold fup
          rw [show 8 * r + 1 + i - 1 = 8 * r + i by omega]
          exact decide_eq_decide.mpr ⟨fun k => k.2.2, fun k => ⟨hm8, hne, k⟩⟩
        have bd : fdn g (8 * r + 1 + i) = decide ((g (8 * r + 1 + i)).getD 0 < (g (8 * r + i)).getD 0) := by
          unfold fdn
          rw [show 8 * r + 1 + i - 1 = 8 * r + i by omega]
          exact decide_eq_decide.mpr ⟨fun k => k.2.2, fun k => ⟨hm8, hne, k⟩⟩
        have ei : (8 : Int32) * nI r + nI (1 + i) = nI (8 * r + 1 + i) := by
          rw [show (8 : Int32) = nI 8 from rfl, pk_mul, nI_add, Nat.add_assoc]
        have ei2 : nI (8 * r + 1 + i) - 1 = nI (8 * r + i) := by
          rw [show 8 * r + 1 + i = 8 * r + i + 1 by omega, nI_pred]
        unfold zX10_facedNow_L17
        rw [h12, if_neg (nI_ge (show 1 + i < W by omega) (by omega)), ei, fr_al_nI (show 8 * r + 1 + i < 32 by omega) (by decide), Option.bind_some, ei2, fr_al_nI (show 8 * r + i < 32 by omega) (by decide), Option.bind_some, h8 _ (by omega), h8 _ (by omega), nI_1, bu, bd, Nat.add_assoc 1 i 1]
        generalize (g (8 * r + 1 + i)).getD 0 = x at *
        generalize (g (8 * r + i)).getD 0 = y at *
        have q1 : (if nI x - nI y ≤ 0 then (0 : Int32) else 1) = i_d (decide (y < x)) := by
          by_cases k : x ≤ y
          · rw [if_pos ((sb_le (by omega) (by omega)).mpr k), decide_eq_false (by omega)]; rfl
          · rw [if_neg (fun l => k ((sb_le (by omega) (by omega)).mp l)), decide_eq_true (by omega)]; rfl
        have q2 : ∀ (A B : Option ((Int32 × Int32 × Int32) ⊕ (Int32 × Int32))), (if 0 ≤ nI x - nI y then A else B) = if decide (x < y) = true then B else A := fun A B => by
          by_cases k : y ≤ x
          · rw [if_pos ((sb_ge (by omega) (by omega)).mpr k), decide_eq_false (by omega)]; rfl
          · rw [if_neg (fun l => k ((sb_ge (by omega) (by omega)).mp l)), decide_eq_true (by omega)]; rfl
        rw [q1, Option.bind_some, q2, q2]
        cases an (fup g) (8 * r + 1 + i) <;> cases an (fdn g) (8 * r + 1 + i) <;> cases decide (y < x) <;> cases decide (x < y) <;> rfl) (by
        show zX10_facedNow_L17 σ (nI r) (i_d (an (fup g) (8 * r + 1 + (W - 1)))) (i_d (an (fdn g) (8 * r + 1 + (W - 1)))) (nI (1 + (W - 1))) = _
        unfold zX10_facedNow_L17
        have k1 := an_ext (p := fup g) (a := 8 * r + 1 + (W - 1)) (d := 8 - W) (fun c a b => (f0 c (by
          have := none_of r (c - 8 * r) (by omega) (by omega)
          rw [show 8 * r + (c - 8 * r) = c by omega] at this
          exact this)).1)
        have k2 := an_ext (p := fdn g) (a := 8 * r + 1 + (W - 1)) (d := 8 - W) (fun c a b => (f0 c (by
          have := none_of r (c - 8 * r) (by omega) (by omega)
          rw [show 8 * r + (c - 8 * r) = c by omega] at this
          exact this)).2)
        rw [show 8 * r + 1 + (W - 1) + (8 - W) = 8 * (r + 1) by omega] at k1 k2
        rw [h12, if_pos (nI_le (show W ≤ 1 + (W - 1) by omega) (by omega)), k1, k2]) 0 (by omega)
    have z1 : an (fup g) (8 * r + 1 + 0) = an (fup g) (8 * r) := by
      show (an (fup g) (8 * r) || fup g (8 * r)) = _
      rw [(f8 (8 * r) (by omega)).1, Bool.or_false]
    have z2 : an (fdn g) (8 * r + 1 + 0) = an (fdn g) (8 * r) := by
      show (an (fdn g) (8 * r) || fdn g (8 * r)) = _
      rw [(f8 (8 * r) (by omega)).2, Bool.or_false]
    rw [← hl]
    show _ = fr_loop _ fr_fu (i_d (an (fup g) (8 * r + 1 + 0)), i_d (an (fdn g) (8 * r + 1 + 0)), nI (1 + 0))
    rw [z1, z2]
    rfl
  unfold zX10_facedNow
  have hl := lp_seq (body := fun (b1 : Int32 × Int32 × Int32) => zX10_facedNow_L6 σ b1.1 b1.2.1 b1.2.2) (fun r => (i_d (an (fup g) (8 * r)), i_d (an (fdn g) (8 * r)), nI r)) R (i_d (an (fup g) 32), i_d (an (fdn g) 32)) (by omega) (fun r hr => by
      show zX10_facedNow_L6 σ (i_d (an (fup g) (8 * r))) (i_d (an (fdn g) (8 * r))) (nI r) = _
      unfold zX10_facedNow_L6
      rw [h13, if_neg (nI_ge hr (by omega)), inner r hr, Option.bind_some, nI_1]) (by
      show zX10_facedNow_L6 σ (i_d (an (fup g) (8 * R))) (i_d (an (fdn g) (8 * R))) (nI R) = _
      unfold zX10_facedNow_L6
      have nn : ∀ c, 8 * R ≤ c → c < 32 → g c = none := fun c a b => by
        have := none_of (c / 8) (c % 8) (by omega) (by omega)
        rw [show 8 * (c / 8) + c % 8 = c by omega] at this
        exact this
      have k1 := an_ext (p := fup g) (a := 8 * R) (d := 32 - 8 * R) (fun c a b => (f0 c (nn c a (by omega))).1)
      have k2 := an_ext (p := fdn g) (a := 8 * R) (d := 32 - 8 * R) (fun c a b => (f0 c (nn c a (by omega))).2)
      rw [show 8 * R + (32 - 8 * R) = 32 by omega] at k1 k2
      rw [h13, if_pos (nI_le (Nat.le_refl _) (by omega)), k1, k2]) 0 (by omega)
  rw [show fr_loop (fun (b1 : Int32 × Int32 × Int32) => zX10_facedNow_L6 σ b1.1 b1.2.1 b1.2.2) fr_fu (0, 0, 0) = some (i_d (an (fup g) 32), i_d (an (fdn g) 32)) from hl, Option.bind_some]
  dsimp only
  cases an (fup g) 32 <;> cases an (fdn g) 32 <;> rfl
/-- faced: both, where the reference has read the pane -/
theorem both_faced {ν : Nat → Nat → Nat} {σx σm : fr_St} (hd : xd ν σx) (hp : pcm (pn (ν 5) (ν 6 0)).2.2.2 σm) (h12 : σm 0 12 = nI (pn (ν 5) (ν 6 0)).2.2.1) (h13 : σm 0 13 = nI (pn (ν 5) (ν 6 0)).2.1) :
    ∃ r, zX9_faced σx = some r ∧ zX10_facedNow σm = some r :=
  ⟨_, x_faced ps_pn hd.1.2.1 (fun c => pn_g9), m_faced ps_pn (fun c hc => (hp.1 c hc).2) (fun c => pn_g9) h12 h13⟩
theorem ok_faced : sm_faced Rl := by
  rintro σx σm ⟨ν, hn, hx, hm, hs, hd, ho, hf⟩
  obtain ⟨σ1, e1, p1, p12, p13, f1⟩ := mp_pane (T := ν 5) (σ := σm) hn.1.1 (fun j hj => hn.2.1 j (by omega)) hm.1.1 (fun j hj => hm.2.1 j (by omega))
  obtain ⟨r, x1, x2⟩ := both_faced hd p1 p12 p13
  refine ⟨r, σ1, x1, ?_, Rl_sc ⟨ν, hn, hx, hm, hs, hd, ho, hf⟩ (mfr_sc f1)⟩
  unfold zX10_faced
  rw [e1, Option.bind_some]
  dsimp only
  rw [x2, Option.bind_some]
