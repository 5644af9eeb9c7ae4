/-! two loops step by step -/
theorem lp_two_run {β γ β' γ' : Type} {body : β → Option (β ⊕ γ)} {body' : β' → Option (β' ⊕ γ')} (I : Nat → β → β' → Prop) (Q : γ → γ' → Prop) (e : Nat)
    (hs : ∀ i b b', i < e → I i b b' → (∃ c c', body b = some (.inl c) ∧ body' b' = some (.inl c') ∧ I (i + 1) c c') ∨ (∃ c c', body b = some (.inr c) ∧ body' b' = some (.inr c') ∧ Q c c'))
    (hx : ∀ b b', I e b b' → ∃ c c', body b = some (.inr c) ∧ body' b' = some (.inr c') ∧ Q c c') : ∀ (N i : Nat) (b : β) (b' : β'), i ≤ e → e - i < N → I i b b' → ∃ c c', fr_loop body N b = some c ∧ fr_loop body' N b' = some c' ∧ Q c c' := by
  intro N
  induction N with
  | zero => intro i b b' _ h; omega
  | succ N ih =>
    intro i b b' hi hN hI
    rcases Nat.lt_or_ge i e with h | h
    · rcases hs i b b' h hI with ⟨c, c', h1, h2, h3⟩ | ⟨c, c', h1, h2, h3⟩
      · obtain ⟨d, d', h4, h5, h6⟩ := ih (i + 1) c c' (by omega) (by omega) h3
        exact ⟨d, d', by unfold fr_loop; rw [h1]; exact h4, by unfold fr_loop; rw [h2]; exact h5, h6⟩
      · exact ⟨c, c', by unfold fr_loop; rw [h1]; rfl, by unfold fr_loop; rw [h2]; rfl, h3⟩
    · have : i = e := by omega
      subst this
      obtain ⟨c, c', h1, h2, h3⟩ := hx b b' hI
      exact ⟨c, c', by unfold fr_loop; rw [h1]; rfl, by unfold fr_loop; rw [h2]; rfl, h3⟩
theorem lp_two {β γ β' γ' : Type} {body : β → Option (β ⊕ γ)} {body' : β' → Option (β' ⊕ γ')} (I : Nat → β → β' → Prop) (Q : γ → γ' → Prop) (e : Nat) (he : e < 10000)
    (hs : ∀ i b b', i < e → I i b b' → (∃ c c', body b = some (.inl c) ∧ body' b' = some (.inl c') ∧ I (i + 1) c c') ∨ (∃ c c', body b = some (.inr c) ∧ body' b' = some (.inr c') ∧ Q c c'))
    (hx : ∀ b b', I e b b' → ∃ c c', body b = some (.inr c) ∧ body' b' = some (.inr c') ∧ Q c c') (i : Nat) (b : β) (b' : β') (hi : i ≤ e) (hI : I i b b') : ∃ c c', fr_loop body fr_fu b = some c ∧ fr_loop body' fr_fu b' = some c' ∧ Q c c' :=
  lp_two_run I Q e hs hx fr_fu i b b' hi (by have := fr_fu_ge; omega) hI
theorem ok_crack : sm_crack Rl := by
  rintro σx σm a1 a2 hR
  refine ⟨zX9_crack a1 a2, rfl, ?_, hR⟩
  unfold zX10_crack zX9_crack zX9_cracks
  simp only [in_m1_99, in_0_30]
  by_cases h : a1 + a2 ≤ 40
  · simp [h]
  · simp [h]
theorem gr_max (d : Int32) : zX10_greater d 0 = if 0 < d then d else 0 := by
  unfold zX10_greater
  by_cases h : d ≤ 0
  · rw [if_pos h, if_neg (Int32.not_lt.mpr h)]
  · rw [if_neg h, if_pos (Int32.not_le.mp h)]
theorem nightOf_eq (a b c : Int32) : zX10_nightOf a b c = zX9_frostOf a b c := by
  unfold zX10_nightOf zX9_frostOf
  simp only [gr_max]
theorem ok_night : sm_night Rl := by
  rintro σx σm a1 a2 a3 hR
  refine ⟨zX9_night a1 a2 a3, rfl, ?_, hR⟩
  unfold zX10_night zX9_night zX10_isNight zX9_isPair
  simp only [in_isTwo, in_0_3, nightOf_eq]
  by_cases h1 : zX9_within a1 0 1 = 0
  · simp [h1]
  · by_cases h2 : zX9_within a2 0 3 = 0
    · simp [h1, h2]
    · by_cases h3 : zX9_within a3 0 1 = 0
      · simp [h1, h2, h3]
      · simp only [h1, h2, h3, if_false, if10]
/-- again: both count alike -/
theorem again_step (p b t w : Nat) (hp : 1 ≤ p ∧ p ≤ 5) (hb : b ≤ 9) (d i : Nat) (hd : d ≤ 5 * i) (hi : i ≤ 120) (f l : Int32) (a4 : Int32) :
    ∃ d' f' l', d' ≤ 5 * (i + 1) ∧ zX9_again_L52 (nI p) (nI b) (nI t) a4 (nI d) f l (nI i) = some (.inl (nI d', f', l', nI (i + 1))) ∧ zX10_againOf_L12 (nI p) (nI b) (nI t) a4 (nI d) f l (nI i) = some (.inl (nI d', f', l', nI (i + 1))) := by
  unfold zX9_again_L52 zX10_againOf_L12
  have h120 : ¬ (120 : Int32) < nI i := by rw [show (120 : Int32) = nI 120 from rfl, nI_ltI (by decide) (by omega)]; omega
  have key : ∃ d', d' ≤ 5 * (i + 1) ∧ (if nI i < nI t then (nI d + nI p) else (if 0 < (nI d + nI p) - nI b then (nI d + nI p) - nI b else 0)) = nI d' ∧ zX10_greater ((nI d + nI p) - (if nI i < nI t then 0 else nI b)) 0 = nI d' := by
    by_cases h : nI i < nI t
    · refine ⟨d + p, by omega, by rw [if_pos h, nI_add], ?_⟩
      rw [if_pos h, gr_max, nI_add, show nI (d + p) - 0 = nI (d + p) from by rw [← nI_0, pk_sub (by omega)]; rfl, if_pos (by rw [nI_lt0 (by omega)]; omega)]
    · rw [if_neg h, if_neg h, gr_max, nI_add]
      by_cases h2 : b ≤ d + p
      · rw [pk_sub h2]
        by_cases h3 : 0 < d + p - b
        · exact ⟨d + p - b, by omega, by rw [if_pos (by rw [nI_lt0 (by omega)]; exact h3)], by rw [if_pos (by rw [nI_lt0 (by omega)]; exact h3)]⟩
        · exact ⟨0, by omega, by rw [if_neg (by rw [nI_lt0 (by omega)]; exact h3)]; rfl, by rw [if_neg (by rw [nI_lt0 (by omega)]; exact h3)]; rfl⟩
      · have h4 := pk_sneg (a := d + p) (b := b) (by omega) (by omega)
        have h5 : ¬ 0 < nI (d + p) - nI b := fun h => by
          have e1 := Int32.lt_iff_toInt_lt.mp h
          have e2 := Int32.lt_iff_toInt_lt.mp h4
          omega
        exact ⟨0, by omega, by rw [if_neg h5]; rfl, by rw [if_neg h5]; rfl⟩
  obtain ⟨d', h1, h2, h3⟩ := key
  simp only [h120, if_false, Option.bind_some, h2, h3, nI_1]
  by_cases h4 : nI d' ≤ 10
  · exact ⟨d', f, l, h1, by rw [if_pos h4], by rw [if_pos h4, if_pos h4]⟩
  · by_cases h5 : f = -1
    · exact ⟨d', nI i, nI i, h1, by rw [if_neg h4, if_pos h5], by rw [if_neg h4, if_neg h4, if_pos h5]⟩
    · exact ⟨d', f, nI i, h1, by rw [if_neg h4, if_neg h5], by rw [if_neg h4, if_neg h4, if_neg h5]⟩
theorem again_both (p b t : Nat) (hp : 1 ≤ p ∧ p ≤ 5) (hb : b ≤ 9) (a4 : Int32) : ∃ c : Int32 × Int32, fr_loop (fun (b1 : Int32 × Int32 × Int32 × Int32) => zX9_again_L52 (nI p) (nI b) (nI t) a4 b1.1 b1.2.1 b1.2.2.1 b1.2.2.2) fr_fu (0, (-1), (-1), 0) = some c ∧ fr_loop (fun (b1 : Int32 × Int32 × Int32 × Int32) => zX10_againOf_L12 (nI p) (nI b) (nI t) a4 b1.1 b1.2.1 b1.2.2.1 b1.2.2.2) fr_fu (0, (-1), (-1), 0) = some c := by
  obtain ⟨c, c', h1, h2, h3⟩ := lp_two (body := fun (b1 : Int32 × Int32 × Int32 × Int32) => zX9_again_L52 (nI p) (nI b) (nI t) a4 b1.1 b1.2.1 b1.2.2.1 b1.2.2.2) (body' := fun (b1 : Int32 × Int32 × Int32 × Int32) => zX10_againOf_L12 (nI p) (nI b) (nI t) a4 b1.1 b1.2.1 b1.2.2.1 b1.2.2.2)
    (fun i x y => x = y ∧ ∃ d f l, d ≤ 5 * i ∧ x = (nI d, f, l, nI i)) (fun c c' => c = c') 121 (by decide) (fun i x y hi ⟨e1, d, f, l, hd, e2⟩ => by
      subst e1; subst e2
      obtain ⟨d', f', l', q1, q2, q3⟩ := again_step p b t 0 hp hb d i hd (by omega) f l a4
      exact Or.inl ⟨_, _, q2, q3, rfl, d', f', l', q1, rfl⟩) (fun x y ⟨e1, d, f, l, hd, e2⟩ => by
      subst e1; subst e2
      exact ⟨(f, l), (f, l), rfl, rfl, rfl⟩) 0 (0, (-1), (-1), 0) (0, (-1), (-1), 0) (by omega) ⟨rfl, 0, -1, -1, by omega, rfl⟩
  subst h3
  exact ⟨c, h1, h2⟩
theorem ok_again : sm_again Rl := by
  rintro σx σm a1 a2 a3 a4 hR
  unfold zX9_again zX10_again zX9_isPair
  simp only [in_1_5, in_0_9, in_0_60, in_isTwo]
  rcases wi_c1 a1 (M := 5) (m := 5) rfl (by decide) with h1 | ⟨p, hp1, hp2, rfl, h1⟩
  · exact ⟨-2, by rw [if_pos h1], by rw [if_pos h1], hR⟩
  rcases wi_c a2 (M := 9) (m := 9) rfl (by decide) with h2 | ⟨b, hb, rfl, h2⟩
  · exact ⟨-2, by simp only [h1, if10]; rw [if_pos h2], by simp only [h1, if10]; rw [if_pos h2], hR⟩
  rcases wi_c a3 (M := 60) (m := 60) rfl (by decide) with h3 | ⟨t, ht, rfl, h3⟩
  · exact ⟨-2, by simp only [h1, h2, if10]; rw [if_pos h3], by simp only [h1, h2, if10]; rw [if_pos h3], hR⟩
  by_cases h4 : zX9_within a4 0 1 = 0
  · exact ⟨-2, by simp only [h1, h2, h3, if10]; rw [if_pos h4], by simp only [h1, h2, h3, if10]; rw [if_pos h4], hR⟩
  obtain ⟨c, e1, e2⟩ := again_both p b t ⟨hp1, hp2⟩ hb a4
  refine ⟨if a4 = 0 then c.1 else if c.2 = 120 then -1 else c.2 + 1, ?_, ?_, hR⟩
  · simp only [h1, h2, h3, h4, if10, if_false, e1, Option.bind_some]
    by_cases q : a4 = 0
    · simp [q]
    · by_cases q2 : c.2 = 120 <;> simp [q, q2]
  · unfold zX10_againOf
    simp only [h1, h2, h3, h4, if10, if_false, e2, Option.bind_some]
    by_cases q : a4 = 0
    · simp [q]
    · by_cases q2 : c.2 = 120 <;> simp [q, q2]
/-! sheets -/
theorem Rl_sh {σx σm σx' σm' : fr_St} (h : Rl σx σm) (ex : ∀ q, q < 30 → q ≠ 0 → σx' q = σx q) (e08 : σx' 0 8 = σx 0 8) (em : ∀ q ∈ [5, 6, 11, 12, 13, 14, 18], σm' q = σm q) (e19 : σm' 0 19 = σm 0 19) (e27 : σm' 0 27 = σm 0 27) (hs : shr σx' σm') (hf : σx' 0 9 = σm' 0 4) : Rl σx' σm' := by
  obtain ⟨ν, hn, hx, hm, -, hd, ho, -⟩ := h
  refine ⟨ν, hn, xb_rows hx (fun q hq => ex q ?_ ?_), mb_rows hm em e19 e27, hs, xd_rows hd (fun q hq => ex q ?_ ?_), mox_rows ho (fun q hq => ex q ?_ ?_) e08, hf⟩ <;>
    (simp only [List.mem_cons, List.not_mem_nil, or_false] at hq; omega)
theorem Rl_found {σx σm : fr_St} (h : Rl σx σm) (k : Int32) : Rl (fr_put σx 0 9 k) (fr_put σm 0 4 k) := by
  refine Rl_sh h (fun q _ h0 => by simp only [fr_put_at]; rw [if_neg h0]) rfl (fun q hq => ?_) rfl rfl ?_ rfl
  · simp only [fr_put_at]; rw [if_neg (by rintro rfl; revert hq; decide)]
  · obtain ⟨ν, -, -, -, hs, -⟩ := h
    exact shr_m (shr_x hs (fun q h1 h2 => by simp only [fr_put_at]; rw [if_neg (by omega)])) (fun q hq => by simp only [fr_put_at]; rw [if_neg (by rintro rfl; revert hq; decide)])
theorem shr_up {σx σm σx' σm' : fr_St} {s n : Nat} {f : Int32} (h : shr σx σm) (hs : s < 4) (hn : n ≤ 60) (x2 : σx' (30 + s) 2 = nI n) (m2 : σm' 2 s = nI n) (it : ∀ i, i < n → σx' (34 + s) i = σm' 3 (60 * s + i)) (x1 : σx' (30 + s) 1 = f) (m1 : σm' 1 s = f) (hf : f = -1 ∨ ∃ k, k ≤ 2 ∧ f = nI k)
    (ox : ∀ r, r < 4 → r ≠ s → σx' (30 + r) = σx (30 + r) ∧ σx' (34 + r) = σx (34 + r)) (om : ∀ r, r < 4 → r ≠ s → σm' 2 r = σm 2 r ∧ σm' 1 r = σm 1 r ∧ ∀ i, i < 60 → σm' 3 (60 * r + i) = σm 3 (60 * r + i)) : shr σx' σm' := by
  intro r hr
  by_cases e : r = s
  · subst e
    exact ⟨⟨n, hn, x2, m2, it⟩, by rw [x1, m1], by rw [m1]; exact hf⟩
  · obtain ⟨o1, o2⟩ := ox r hr e
    obtain ⟨p1, p2, p3⟩ := om r hr e
    obtain ⟨⟨k, q1, q2, q3, q4⟩, q5, q6⟩ := h r hr
    refine ⟨⟨k, q1, by rw [o1]; exact q2, by rw [p1]; exact q3, fun i hi => by rw [o2, p3 i (by omega)]; exact q4 i hi⟩, by rw [o1, p2]; exact q5, by rw [p2]; exact q6⟩
theorem neg1_lt : ¬ (0 : Int32) ≤ -1 := by decide
/-- a sheet's form: lost or not -/
theorem shr_at {σx σm : fr_St} (h : shr σx σm) {s : Nat} (hs : s < 4) : ∃ n, n ≤ 60 ∧ σx (30 + s) 2 = nI n ∧ σm 2 s = nI n ∧ (∀ i, i < n → σx (34 + s) i = σm 3 (60 * s + i)) ∧ ((σx (30 + s) 1 = -1 ∧ σm 1 s = -1) ∨ ∃ f, f ≤ 2 ∧ σx (30 + s) 1 = nI f ∧ σm 1 s = nI f) := by
  obtain ⟨⟨k, q1, q2, q3, q4⟩, q5, q6⟩ := h s hs
  refine ⟨k, q1, q2, q3, q4, ?_⟩
  rcases q6 with e | ⟨f, hf, e⟩
  · exact Or.inl ⟨by rw [q5, e], e⟩
  · exact Or.inr ⟨f, hf, by rw [q5, e], e⟩
theorem ok_lose : sm_lose Rl := by
  rintro σx σm a1 hR
  have hs : shr σx σm := by obtain ⟨ν, -, -, -, hs, -⟩ := hR; exact hs
  have hf : σx 0 9 = σm 0 4 := by obtain ⟨ν, -, -, -, -, -, -, hf⟩ := hR; exact hf
  unfold zX9_lose zX10_lose zX9_isSheet
  simp only [in_isSheet]
  rcases wi_c a1 (M := 3) (m := 3) rfl (by decide) with h1 | ⟨s, hs3, rfl, h1⟩
  · exact ⟨-2, σx, σm, by rw [if_pos h1], by rw [if_pos h1], hR⟩
  have hs4 : s < 4 := by omega
  obtain ⟨n, hn, x2, m2, it, hform⟩ := shr_at hs hs4
  simp only [h1, if10, fr_ar_nI hs4 (by decide), fr_al_nI hs4 (by decide), fr_as_nI hs4 (by decide), Option.bind_some]
  rcases hform with ⟨x1, m1⟩ | ⟨f, hf2, x1, m1⟩
  · refine ⟨-10 - 1, fr_put σx 0 9 1, fr_put σm 0 4 1, ?_, ?_, Rl_found hR 1⟩
    · unfold zX5_isLost zX9_found
      rw [x1]; simp
    · unfold zX10_met
      rw [m1, if_neg neg1_lt]; rfl
  · refine ⟨nI n, fr_put σx (30 + s) 1 (-1), fr_put σm 1 s (-1), ?_, ?_, ?_⟩
    · unfold zX5_isLost
      rw [x1, if_neg (nI_m1 (by omega)), if_pos rfl]
      congr 2
      simp only [fr_put_at, if_true, upd_at]
      rw [if_neg (by decide)]; exact x2
    · rw [m1, if_pos (nI_ge0 (by omega))]
      congr 2
    · refine Rl_sh hR (fun q hq _ => by simp only [fr_put_at]; rw [if_neg (by omega)]) (by simp only [fr_put_at]; rw [if_neg (by omega)]) (fun q hq => ?_) rfl rfl ?_ ?_
      · simp only [fr_put_at]; rw [if_neg (by rintro rfl; revert hq; decide)]
      · refine shr_up hs hs4 hn (f := -1) ?_ m2 ?_ ?_ ?_ (Or.inl rfl) (fun r hr hne => ?_) (fun r hr hne => ?_)
        · simp only [fr_put_at, if_true, upd_at]; rw [if_neg (by decide)]; exact x2
        · intro i hi
          simp only [fr_put_at]; rw [if_neg (by omega), if_neg (by decide)]; exact it i hi
        · simp only [fr_put_at, if_true, upd_at]
        · simp only [fr_put_at, if_true, upd_at]
        · simp only [fr_put_at]; rw [if_neg (by omega), if_neg (by omega)]; exact ⟨rfl, rfl⟩
        · refine ⟨rfl, ?_, fun _ _ => rfl⟩
          simp only [fr_put_at, if_true, upd_at]; rw [if_neg hne]
      · simp only [fr_put_at]; rw [if_neg (by omega), if_neg (by decide)]; exact hf
