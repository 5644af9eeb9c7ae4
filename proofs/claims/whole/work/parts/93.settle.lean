/-! the morning, settled by the class -/
theorem rd_le {T : Nat → Nat} {n : Nat} : rd_n T n ≤ n := by
  unfold rd_n
  split
  · exact Nat.le_refl _
  · exact Nat.zero_le _
theorem rd_m40 {T : Nat → Nat} {n k : Nat} (hn : n ≤ 40) : rd_m T n k ≤ 40 := by
  unfold rd_m
  have h1 := su_le (f := fun i => if rd_k (T i) = some k then 1 else 0) (k := 1) (n := rd_n T n) (fun i _ => by split <;> omega)
  have h2 := rd_le (T := T) (n := n)
  omega
theorem mo_h_le {T : Nat → Nat} {n : Nat} {lk : Nat → Nat} (hn : n ≤ 40) (hl : ∀ j, j < 160 → lk j ≤ 9) {c : Nat} (hc : c < 32) : mo_h T n lk c ≤ 1800 := by
  unfold mo_h
  have := su_le (f := fun k => rd_m T n k * lk (32 * k + c)) (k := 360) (n := 5) (fun k hk => by
    have := Nat.mul_le_mul (rd_m40 (T := T) (k := k) hn) (hl (32 * k + c) (by omega))
    omega)
  omega
theorem xs_settled {ν : Nat → Nat → Nat} {σ : fr_St} (hn : nb ν) (hx : xb ν σ) (hd : xd ν σ) (ho : mox ν σ) :
    ∃ σ', zX9_settled σ = some (0, σ') ∧ mor ν σ' ∧ σ' 0 8 = 0 ∧ (∀ q, q ≠ 0 → q < 17 ∨ 23 < q → σ' q = σ q) ∧ σ' 0 9 = σ 0 9 := by
  unfold zX9_settled
  rcases ho with h8 | ⟨h8, hm⟩
  · rw [if_neg (by rw [h8]; decide)]
    obtain ⟨n1, n2, n3, n4, n5, n6, n7, n8, n9⟩ := hn
    obtain ⟨x1, x2, x3, x4, x5, x6, x7, x8, x9, x10⟩ := hx
    obtain ⟨d1, d2, d3⟩ := hd
    obtain ⟨σ1, e1, a18, a19, a20, f1⟩ := xs_scrape (g := (pn (ν 5) (ν 6 0)).2.2.2) (hol := ν 12) (sk := ν 14) (n := ν 0 19) (σ := σ) (fun c => pn_g9) n4 n7 n6 d1.2.1 x5 x7 x8
    have h9 : ∀ c, (mo_s (pn (ν 5) (ν 6 0)).2.2.2 (ν 12) (ν 14) (ν 0 19)).1 c ≤ 9 := fun c => Nat.le_trans ((mo_le _).1 c) pn_g9
    have h0 : ∀ c, (pn (ν 5) (ν 6 0)).2.2.2 c = none → (mo_s (pn (ν 5) (ν 6 0)).2.2.2 (ν 12) (ν 14) (ν 0 19)).1 c = 0 := fun c h => mo_0 h
    obtain ⟨σ2, e2, b21, b17, b23, f2⟩ := xw_weigh (g := (pn (ν 5) (ν 6 0)).2.2.2) (m := rd_m (fun i => ν 5 (40 + i)) (ν 6 1)) (lk := ν 13) (th := (mo_s (pn (ν 5) (ν 6 0)).2.2.2 (ν 12) (ν 14) (ν 0 19)).1) (σ := σ1) h9 h0 (fun k hk => by rw [f1 8 (by decide) (by decide) (by decide)]; exact d2.2.2 k hk) (fun k hk => by rw [f1 13 (by decide) (by decide) (by decide)]; exact x6 k hk) a19
    obtain ⟨σ3, e3, c6, c22, c7, f3⟩ := xo_order (g := (pn (ν 5) (ν 6 0)).2.2.2) (h := mo_h (fun i => ν 5 (40 + i)) (ν 6 1) (ν 13)) (th := (mo_s (pn (ν 5) (ν 6 0)).2.2.2 (ν 12) (ν 14) (ν 0 19)).1) (σ := σ2) h9 (fun c hc => Nat.le_trans (mo_h_le n1.2 n5 hc) (by decide)) h0 b21 (fun c hc => by rw [f2 19 (by decide) (by decide) (by decide)]; exact a19 c hc)
    rw [e1, Option.bind_some, e2, Option.bind_some, e3, Option.bind_some]
    refine ⟨_, rfl, ⟨_, _, _, _, rfl, rfl, rfl, rfl, fun i hi => ?_, fun c hc => ?_, fun t ht => ?_, fun c hc => ?_, c6, c22, c7.trans b17, fun l h1 h2 => ?_⟩, rfl, fun q a b => ?_, ?_⟩
    · show σ3 18 i = _
      rw [f3 18 (by decide) (by decide), f2 18 (by decide) (by decide) (by decide)]; exact a18 i hi
    · show σ3 19 c = _
      rw [f3 19 (by decide) (by decide), f2 19 (by decide) (by decide) (by decide)]; exact a19 c hc
    · show σ3 20 t = _
      rw [f3 20 (by decide) (by decide), f2 20 (by decide) (by decide) (by decide)]; exact a20 t ht
    · show σ3 21 c = _
      rw [f3 21 (by decide) (by decide)]; exact b21 c hc
    · show σ3 23 l = _
      rw [f3 23 (by decide) (by decide)]; exact b23 l h1 h2
    · rw [fr_put_at, if_neg a, f3 q (by omega) (by omega), f2 q (by omega) (by omega) (by omega), f1 q (by omega) (by omega) (by omega)]
    · show σ3 0 9 = _
      rw [f3 0 (by decide) (by decide), f2 0 (by decide) (by decide) (by decide), f1 0 (by decide) (by decide) (by decide)]
  · rw [if_pos h8]
    exact ⟨σ, rfl, hm, h8, fun _ _ _ => rfl, rfl⟩
/-- what is known of two states of which the class's is settled -/
def Rs (ν : Nat → Nat → Nat) (σx σm : fr_St) : Prop := nb ν ∧ xb ν σx ∧ mb ν σm ∧ shr σx σm ∧ xd ν σx ∧ mor ν σx ∧ σx 0 8 = 0 ∧ σx 0 9 = σm 0 4
theorem Rs_Rl {ν : Nat → Nat → Nat} {σx σm : fr_St} (h : Rs ν σx σm) : Rl σx σm := ⟨ν, h.1, h.2.1, h.2.2.1, h.2.2.2.1, h.2.2.2.2.1, Or.inr ⟨h.2.2.2.2.2.2.1, h.2.2.2.2.2.1⟩, h.2.2.2.2.2.2.2⟩
theorem Rs_sc {ν : Nat → Nat → Nat} {σx σm σm' : fr_St} (h : Rs ν σx σm) (e : msc σm σm') : Rs ν σx σm' :=
  ⟨h.1, h.2.1, mb_sc h.2.2.1 e, shr_sc h.2.2.2.1 e, h.2.2.2.2.1, h.2.2.2.2.2.1, h.2.2.2.2.2.2.1, by rw [e.2.2.2]; exact h.2.2.2.2.2.2.2⟩
theorem settled {ν : Nat → Nat → Nat} {σx σm : fr_St} (hn : nb ν) (hx : xb ν σx) (hm : mb ν σm) (hs : shr σx σm) (hd : xd ν σx) (ho : mox ν σx) (hf : σx 0 9 = σm 0 4) :
    ∃ σ', zX9_settled σx = some (0, σ') ∧ Rs ν σ' σm ∧ ∀ q, q ≠ 0 → q < 17 ∨ 23 < q → σ' q = σx q := by
  obtain ⟨σ', e, hmo, h8, hq, h9⟩ := xs_settled hn hx hd ho
  refine ⟨σ', e, ⟨hn, xb_rows hx (fun q h => hq q ?_ ?_), hm, shr_x hs (fun q a b => hq q (by omega) (by omega)), xd_rows hd (fun q h => hq q ?_ ?_), hmo, h8, h9.trans hf⟩, hq⟩
  · rintro rfl; revert h; decide
  · simp at h; omega
  · rintro rfl; revert h; decide
  · simp at h; omega
