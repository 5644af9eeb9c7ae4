/-! the morning: what the reference scrapes -/
def mo_f (f : Nat → Nat) : Nat → Option Nat
  | 0 => none
  | k + 1 => (mo_f f k).or (if f k = 0 then some k else none)
theorem mo_f_lt {f : Nat → Nat} : ∀ {k i : Nat}, mo_f f k = some i → i < k
  | 0, i, h => by simp [mo_f] at h
  | k + 1, i, h => by
    unfold mo_f at h
    cases e : mo_f f k with
    | some j =>
      have := mo_f_lt e
      rw [e] at h
      simp at h; omega
    | none =>
      rw [e] at h
      by_cases hz : f k = 0
      · rw [if_pos hz] at h; simp at h; omega
      · rw [if_neg hz] at h; simp at h
def mst (ν : Nat → Nat → Nat) (k : Nat) (σ : fr_St) : Prop :=
  pcm (pn (ν 5) (ν 6 0)).2.2.2 σ ∧ σ 0 12 = nI (pn (ν 5) (ν 6 0)).2.2.1 ∧ σ 0 13 = nI (pn (ν 5) (ν 6 0)).2.1 ∧ σ 0 14 = nI (rd_n (fun i => ν 5 (40 + i)) (ν 6 1)) ∧
  (∀ i, i < rd_n (fun i => ν 5 (40 + i)) (ν 6 1) → ∃ k, k < 5 ∧ rd_k (ν 5 (40 + i)) = some k ∧ σ 10 i = nI k) ∧
  (∀ c, c < 32 → σ 9 c = nI ((mo_s (pn (ν 5) (ν 6 0)).2.2.2 (ν 12) (ν 14) k).1 c)) ∧ (∀ t, t < 4 → σ 15 t = nI ((mo_s (pn (ν 5) (ν 6 0)).2.2.2 (ν 12) (ν 14) k).2 t)) ∧
  σ 0 22 = nI (su (fun i => mo_t (pn (ν 5) (ν 6 0)).2.2.2 (ν 12) (ν 14) i * ν 11 (ν 14 (2 * i))) k) ∧ σ 0 23 = nI (su (fun i => if mo_t (pn (ν 5) (ν 6 0)).2.2.2 (ν 12) (ν 14) i = 0 then 0 else 1) k) ∧ σ 0 24 = oI (mo_f (mo_t (pn (ν 5) (ν 6 0)).2.2.2 (ν 12) (ν 14)) k)
theorem ms_c12 (σ : fr_St) (a1 : Int32) : ∃ f : Nat → Int32, (∀ c, c < 32 → f c = σ 8 c) ∧ fr_loop (fun (b5 : Int32 × fr_St) => zX10_scrapes_L12 a1 b5.1 b5.2) fr_fu (0, σ) = some (fr_row σ 9 f) := by
  obtain ⟨z, hz, f, rfl, hf⟩ := lp_fu (body := fun (b5 : Int32 × fr_St) => zX10_scrapes_L12 a1 b5.1 b5.2)
    (fun i b => ∃ f : Nat → Int32, b = (nI i, fr_row σ 9 f) ∧ ∀ c, c < i → f c = σ 8 c) (fun z => ∃ f : Nat → Int32, z = fr_row σ 9 f ∧ ∀ c, c < 32 → f c = σ 8 c) 32 (by omega)
    (fun i b hi hI => by
      obtain ⟨f, rfl, hf⟩ := hI
      left
      show ∃ b', zX10_scrapes_L12 a1 (nI i) (fr_row σ 9 f) = _ ∧ _
      unfold zX10_scrapes_L12
      rw [if_neg (show ¬ 32 ≤ nI i from nI_ge (b := 32) hi (by decide)), fr_al_nI hi (by decide), Option.bind_some, fr_as_nI hi (by decide), Option.bind_some, fr_put_row, fr_row_ne (by decide), nI_1]
      refine ⟨_, rfl, _, rfl, fun c hc => ?_⟩
      rw [upd_at]
      by_cases e : c = i
      · rw [if_pos e, e]
      · rw [if_neg e]; exact hf c (by omega))
    (fun b hI => by
      obtain ⟨f, rfl, hf⟩ := hI
      refine ⟨_, ?_, f, rfl, hf⟩
      show zX10_scrapes_L12 a1 (nI 32) (fr_row σ 9 f) = _
      unfold zX10_scrapes_L12
      rw [if_pos (by decide)])
    0 (0, σ) (by omega) ⟨σ 9, by rw [fr_row_id]; rfl, fun c hc => by omega⟩
  exact ⟨f, hf, hz⟩
theorem ms_c38 (σ : fr_St) (a1 : Int32) : ∃ f : Nat → Int32, (∀ c, c < 4 → f c = σ 12 c) ∧ fr_loop (fun (b5 : Int32 × fr_St) => zX10_scrapes_L38 a1 b5.1 b5.2) fr_fu (0, σ) = some (fr_row σ 15 f) := by
  obtain ⟨z, hz, f, rfl, hf⟩ := lp_fu (body := fun (b5 : Int32 × fr_St) => zX10_scrapes_L38 a1 b5.1 b5.2)
    (fun i b => ∃ f : Nat → Int32, b = (nI i, fr_row σ 15 f) ∧ ∀ c, c < i → f c = σ 12 c) (fun z => ∃ f : Nat → Int32, z = fr_row σ 15 f ∧ ∀ c, c < 4 → f c = σ 12 c) 4 (by omega)
    (fun i b hi hI => by
      obtain ⟨f, rfl, hf⟩ := hI
      left
      show ∃ b', zX10_scrapes_L38 a1 (nI i) (fr_row σ 15 f) = _ ∧ _
      unfold zX10_scrapes_L38
      rw [if_neg (show ¬ 4 ≤ nI i from nI_ge (b := 4) hi (by decide)), fr_al_nI hi (by decide), Option.bind_some, fr_as_nI hi (by decide), Option.bind_some, fr_put_row, fr_row_ne (by decide), nI_1]
      refine ⟨_, rfl, _, rfl, fun c hc => ?_⟩
      rw [upd_at]
      by_cases e : c = i
      · rw [if_pos e, e]
      · rw [if_neg e]; exact hf c (by omega))
    (fun b hI => by
      obtain ⟨f, rfl, hf⟩ := hI
      refine ⟨_, ?_, f, rfl, hf⟩
      show zX10_scrapes_L38 a1 (nI 4) (fr_row σ 15 f) = _
      unfold zX10_scrapes_L38
      rw [if_pos (by decide)])
    0 (0, σ) (by omega) ⟨σ 15, by rw [fr_row_id]; rfl, fun c hc => by omega⟩
  exact ⟨f, hf, hz⟩
theorem if_two {P Q : Prop} [Decidable P] [Decidable Q] {α : Type} {A B : α} (h : P ∨ Q) : (if P then A else if Q then A else B) = A := by
  by_cases p : P
  · rw [if_pos p]
  · rw [if_neg p, if_pos (h.resolve_left p)]
def mfs (σ σ' : fr_St) : Prop := (∀ q, q ≠ 0 → q ≠ 9 → q ≠ 15 → σ' q = σ q) ∧ ∀ j, j ≠ 22 → j ≠ 23 → j ≠ 24 → σ' 0 j = σ 0 j
theorem ms_loop {g : Nat → Option Nat} {hol sk sec : Nat → Nat} {k : Nat} {σ : fr_St} (hk : k ≤ 40) (hg : ∀ c, (g c).getD 0 ≤ 9) (hh : ∀ t, t < 4 → hol t ≤ 99) (hsk : ∀ i, i < 40 → sk (2 * i) < 4 ∧ sk (2 * i + 1) < 32)
    (h14 : ∀ j, j < 80 → σ 14 j = nI (sk j)) (h11 : ∀ t, t < 4 → σ 11 t = nI (sec t)) (h9 : ∀ c, c < 32 → σ 9 c = nI ((g c).getD 0)) (h15 : ∀ t, t < 4 → σ 15 t = nI (hol t)) (h22 : σ 0 22 = 0) (h23 : σ 0 23 = 0) (h24 : σ 0 24 = -1) :
    ∃ σ', fr_loop (fun (b13 : Int32 × fr_St) => zX10_scrapes_L78 (nI k) b13.1 b13.2) fr_fu (0, σ) = some σ' ∧ mfs σ σ' ∧ (∀ c, c < 32 → σ' 9 c = nI ((mo_s g hol sk k).1 c)) ∧ (∀ t, t < 4 → σ' 15 t = nI ((mo_s g hol sk k).2 t)) ∧ σ' 0 22 = nI (su (fun i => mo_t g hol sk i * sec (sk (2 * i))) k) ∧ σ' 0 23 = nI (su (fun i => if mo_t g hol sk i = 0 then 0 else 1) k) ∧ σ' 0 24 = oI (mo_f (mo_t g hol sk) k) := by
  refine lp_fu (body := fun (b13 : Int32 × fr_St) => zX10_scrapes_L78 (nI k) b13.1 b13.2)
    (fun i b => ∃ σ', b = (nI i, σ') ∧ mfs σ σ' ∧ (∀ c, c < 32 → σ' 9 c = nI ((mo_s g hol sk i).1 c)) ∧ (∀ t, t < 4 → σ' 15 t = nI ((mo_s g hol sk i).2 t)) ∧ σ' 0 22 = nI (su (fun i => mo_t g hol sk i * sec (sk (2 * i))) i) ∧ σ' 0 23 = nI (su (fun i => if mo_t g hol sk i = 0 then 0 else 1) i) ∧ σ' 0 24 = oI (mo_f (mo_t g hol sk) i))
    _ k (by omega)
    (fun i b hi hI => by
      obtain ⟨σ', rfl, hf, s9, s15, s22, s23, s24⟩ := hI
      left
      show ∃ b', zX10_scrapes_L78 (nI k) (nI i) σ' = _ ∧ _
      unfold zX10_scrapes_L78
      obtain ⟨ht, hc⟩ := hsk i (by omega)
      have hle := (mo_le (g := g) (hol := hol) (sk := sk) i)
      have emt : mo_t g hol sk i = if 0 < (mo_s g hol sk i).1 (sk (2 * i + 1)) ∧ (mo_s g hol sk i).1 (sk (2 * i + 1)) ≤ (mo_s g hol sk i).2 (sk (2 * i)) then (mo_s g hol sk i).1 (sk (2 * i + 1)) else 0 := rfl
      have ems : mo_s g hol sk (i + 1) = if 0 < (mo_s g hol sk i).1 (sk (2 * i + 1)) ∧ (mo_s g hol sk i).1 (sk (2 * i + 1)) ≤ (mo_s g hol sk i).2 (sk (2 * i)) then (upN (mo_s g hol sk i).1 (sk (2 * i + 1)) 0, upN (mo_s g hol sk i).2 (sk (2 * i)) ((mo_s g hol sk i).2 (sk (2 * i)) - (mo_s g hol sk i).1 (sk (2 * i + 1)))) else mo_s g hol sk i := rfl
      have e22 : su (fun i => mo_t g hol sk i * sec (sk (2 * i))) (i + 1) = su (fun i => mo_t g hol sk i * sec (sk (2 * i))) i + mo_t g hol sk i * sec (sk (2 * i)) := rfl
      have e23 : su (fun i => if mo_t g hol sk i = 0 then 0 else 1) (i + 1) = su (fun i => if mo_t g hol sk i = 0 then 0 else 1) i + (if mo_t g hol sk i = 0 then 0 else 1) := rfl
      have e24 : mo_f (mo_t g hol sk) (i + 1) = (mo_f (mo_t g hol sk) i).or (if mo_t g hol sk i = 0 then some i else none) := rfl
      have a14 : σ' 14 (2 * i) = nI (sk (2 * i)) := by rw [hf.1 14 (by decide) (by decide) (by decide)]; exact h14 _ (by omega)
      have b14 : σ' 14 (2 * i + 1) = nI (sk (2 * i + 1)) := by rw [hf.1 14 (by decide) (by decide) (by decide)]; exact h14 _ (by omega)
      have a11 : σ' 11 (sk (2 * i)) = nI (sec (sk (2 * i))) := by rw [hf.1 11 (by decide) (by decide) (by decide)]; exact h11 _ ht
      have hfl : ∀ j, mo_f (mo_t g hol sk) i = some j → j < 40 := fun j h => by have := mo_f_lt h; omega
      rw [e22, e23, e24, ems, if_neg (nI_ge hi (by omega)), show (2 : Int32) * nI i = nI (2 * i) by rw [show (2 : Int32) = nI 2 from rfl, pk_mul], nI_1, fr_al_nI (show 2 * i < 80 by omega) (by decide), Option.bind_some, fr_al_nI (show 2 * i + 1 < 80 by omega) (by decide), Option.bind_some, a14, b14]
      generalize mo_f (mo_t g hol sk) i = mf at *
      generalize su (fun i => mo_t g hol sk i * sec (sk (2 * i))) i = u22 at *
      generalize su (fun i => if mo_t g hol sk i = 0 then 0 else 1) i = u23 at *
      generalize mo_t g hol sk i = mt at *
      generalize sk (2 * i) = t at *
      generalize sk (2 * i + 1) = c at *
      generalize mo_s g hol sk i = S at *
      obtain ⟨th, lf⟩ := S
      dsimp only at hle emt ems s9 s15 ⊢
      have hth : th c ≤ 9 := Nat.le_trans (hle.1 c) (hg c)
      have hlf : lf t ≤ 99 := Nat.le_trans (hle.2 t) (hh t ht)
      rw [fr_al_nI hc (by decide), Option.bind_some, fr_al_nI ht (by decide), Option.bind_some, Option.bind_some, Option.bind_some, fr_al_nI ht (by decide), Option.bind_some, s9 c hc, s15 t ht, a11]
      by_cases hd : 0 < th c ∧ th c ≤ lf t
      · rw [if_pos hd] at emt
        rw [if_neg (nI_nle hd.1 (by omega)), if_neg (nI_nlt hd.2 (by omega)), if_pos hd, pk_mul, fr_al_nI ht (by decide), Option.bind_some, fr_al_nI hc (by decide), Option.bind_some, fr_as_nI ht (by decide), Option.bind_some, fr_as_nI hc (by decide), Option.bind_some]
        rw [s22, nI_add, show (fr_put σ' 0 22 (nI (u22 + th c * sec t))) 15 t = nI (lf t) from s15 t ht, show (fr_put σ' 0 22 (nI (u22 + th c * sec t))) 9 c = nI (th c) from s9 c hc, pk_sub hd.2, nI_1]
        refine ⟨_, rfl, fr_put (fr_put (fr_put (fr_put σ' 0 22 (nI (u22 + th c * sec t))) 15 t (nI (lf t - th c))) 9 c 0) 0 23 (nI (u23 + 1)), ?_, ⟨fun q x y z => ?_, fun j x y z => ?_⟩, fun c' hc' => ?_, fun t' ht' => ?_, ?_, ?_, ?_⟩
        · rw [show (fr_put (fr_put (fr_put σ' 0 22 (nI (u22 + th c * sec t))) 15 t (nI (lf t - th c))) 9 c 0) 0 23 = nI u23 from s23, nI_1]
        · simp only [fr_put_at]
          rw [if_neg x, if_neg y, if_neg z, if_neg x]
          exact hf.1 q x y z
        · have := hf.2 j x y z
          simpa [fr_put_at, upd_at, x, y] using this
        · have := s9 c' hc'
          unfold upN
          dsimp only
          by_cases e : c' = c
          · rw [if_pos e]; simp [fr_put_at, upd_at, e, nI_0]
          · rw [if_neg e, ← this]; simp [fr_put_at, upd_at, e]
        · have := s15 t' ht'
          unfold upN
          dsimp only
          by_cases e : t' = t
          · rw [if_pos e]; simp [fr_put_at, upd_at, e]
          · rw [if_neg e, ← this]; simp [fr_put_at, upd_at, e]
        · rw [emt]; simp [fr_put_at, upd_at]
        · rw [emt, if_neg (by omega)]; simp [fr_put_at, upd_at]
        · rw [emt, if_neg (by omega), Option.or_none, ← s24]
          simp [fr_put_at, upd_at]
      · rw [if_neg hd] at emt
        rw [if_two (by
          by_cases h1 : 0 < th c
          · exact Or.inr (nI_lt (by omega) (by omega))
          · exact Or.inl (by rw [nI_le0 (by omega)]; omega)), if_neg hd, emt, if_pos rfl, if_pos rfl, Nat.zero_mul, Nat.add_zero, Nat.add_zero, nI_1]
        have fin : ∀ v : Int32, v = oI (mf.or (some i)) → mfs σ (fr_put σ' 0 24 v) ∧ (∀ c, c < 32 → (fr_put σ' 0 24 v) 9 c = nI (th c)) ∧ (∀ t, t < 4 → (fr_put σ' 0 24 v) 15 t = nI (lf t)) ∧ (fr_put σ' 0 24 v) 0 22 = nI u22 ∧ (fr_put σ' 0 24 v) 0 23 = nI u23 ∧ (fr_put σ' 0 24 v) 0 24 = oI (mf.or (some i)) := fun v hv => by
          refine ⟨⟨fun q x y z => by rw [fr_put_at, if_neg x]; exact hf.1 q x y z, fun j x y z => ?_⟩, s9, s15, s22, s23, by rw [← hv]; simp [fr_put_at, upd_at]⟩
          have := hf.2 j x y z
          simpa [fr_put_at, upd_at, z] using this
        cases mf with
        | none =>
          rw [if_pos (show σ' 0 24 = -1 from s24)]
          exact ⟨_, rfl, _, rfl, fin (nI i) rfl⟩
        | some j =>
          rw [if_neg (by rw [s24]; exact nI_m1 (by have := hfl j rfl; omega))]
          exact ⟨_, rfl, _, rfl, fin _ s24⟩)
    (fun b hI => by
      obtain ⟨σ', rfl, h⟩ := hI
      refine ⟨σ', ?_, h⟩
      show zX10_scrapes_L78 (nI k) (nI k) σ' = _
      unfold zX10_scrapes_L78
      rw [if_pos (nI_le (Nat.le_refl _) (by omega))])
    0 (0, σ) (by omega) ⟨σ, rfl, ⟨fun _ _ _ _ => rfl, fun _ _ _ _ => rfl⟩, h9, h15, h22.trans nI_0.symm, h23.trans nI_0.symm, h24⟩
theorem ms_scrapes {ν : Nat → Nat → Nat} {σ : fr_St} {k : Nat} (hn : nb ν) (hm : mb ν σ) (hk : k ≤ 40) : ∃ σ', zX10_scrapes σ (nI k) = some σ' ∧ mst ν k σ' ∧ msc σ σ' := by
  unfold zX10_scrapes
  obtain ⟨σ1, e1, p1, p12, p13, f1⟩ := mp_pane (T := ν 5) (σ := σ) hn.1.1 (fun j hj => hn.2.1 j (by omega)) hm.1.1 (fun j hj => hm.2.1 j (by omega))
  have m1 := mb_sc hm (mfr_sc f1)
  obtain ⟨σ2, e2, q14, q10, f2⟩ := mr_road (T := fun i => ν 5 (40 + i)) (σ := σ1) hn.1.2 (fun j hj => hn.2.1 (40 + j) (by omega)) m1.1.2 (fun j hj => m1.2.1 (40 + j) (by omega))
  have m2 := mb_sc m1 (mfd_sc f2)
  obtain ⟨c9, k9, l9⟩ := ms_c12 σ2 (nI k)
  obtain ⟨c15, k15, l15⟩ := ms_c38 (fr_row σ2 9 c9) (nI k)
  have f3 : msc σ (fr_put (fr_put (fr_put (fr_row (fr_row σ2 9 c9) 15 c15) 0 22 0) 0 23 0) 0 24 (-1)) :=
    msc_f (msc_f (msc_f (msc_row (msc_row (msc_tr (mfr_sc f1) (mfd_sc f2)) (by omega)) (by omega)) (by decide)) (by decide)) (by decide)
  have m3 := mb_sc hm f3
  obtain ⟨σ4, e4, f4, a9, a15, a22, a23, a24⟩ := ms_loop (g := (pn (ν 5) (ν 6 0)).2.2.2) (hol := ν 12) (sk := ν 14) (sec := ν 11) (k := k) (σ := fr_put (fr_put (fr_put (fr_row (fr_row σ2 9 c9) 15 c15) 0 22 0) 0 23 0) 0 24 (-1)) hk (fun c => pn_g9) hn.2.2.2.1 hn.2.2.2.2.2.2.1 m3.2.2.2.2.2.2.1 m3.2.2.1
    (fun c hc => (k9 c hc).trans (by rw [f2.1 8 (by decide) (by decide)]; exact (p1.1 c hc).2)) (fun t ht => (k15 t ht).trans (m2.2.2.2.1 t ht)) rfl rfl rfl
  rw [e1, Option.bind_some]
  dsimp only
  rw [e2, Option.bind_some]
  dsimp only
  rw [l9, Option.bind_some, l15, Option.bind_some, e4, Option.bind_some]
  have r0 : ∀ j, j ≠ 22 → j ≠ 23 → j ≠ 24 → σ4 0 j = σ2 0 j := fun j a b c => (f4.2 j a b c).trans (by simp [fr_put_at, fr_row_at, upd_at, a, b, c])
  have rq : ∀ q, q ≠ 0 → q ≠ 9 → q ≠ 15 → σ4 q = σ2 q := fun q a b c => (f4.1 q a b c).trans (by simp [fr_put_at, fr_row_at, a, b, c])
  refine ⟨σ4, rfl, ⟨⟨fun c hc => ?_, ?_⟩, ?_, ?_, ?_, fun i hi => ?_, a9, a15, a22, a23, a24⟩, msc_tr f3 ?_⟩
  · rw [rq 7 (by decide) (by decide) (by decide), rq 8 (by decide) (by decide) (by decide), f2.1 7 (by decide) (by decide), f2.1 8 (by decide) (by decide)]
    exact p1.1 c hc
  · rw [r0 11 (by decide) (by decide) (by decide), f2.2 11 (by decide)]; exact p1.2
  · rw [r0 12 (by decide) (by decide) (by decide), f2.2 12 (by decide)]; exact p12
  · rw [r0 13 (by decide) (by decide) (by decide), f2.2 13 (by decide)]; exact p13
  · rw [r0 14 (by decide) (by decide) (by decide)]; exact q14
  · rw [rq 10 (by decide) (by decide) (by decide)]; exact q10 i hi
  · exact ⟨fun q hq => f4.1 q (by rintro rfl; revert hq; decide) (by rintro rfl; revert hq; decide) (by rintro rfl; revert hq; decide), f4.2 19 (by decide) (by decide) (by decide), f4.2 27 (by decide) (by decide) (by decide), f4.2 4 (by decide) (by decide) (by decide)⟩
