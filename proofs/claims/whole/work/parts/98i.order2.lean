/-! the order once more: strict, and whole -/
/-- a stands ahead of b in the order -/
def mo_b (h th : Nat → Nat) (a b : Nat) : Prop := mo_q h th b a = false ∧ (mo_q h th a b = true ∨ a < b)
def mo_g (h th : Nat → Nat) (n : Nat) (L : List Nat) : Prop := (∀ i j, i < j → j < L.length → mo_b h th (L.getD i 0) (L.getD j 0)) ∧ ∀ c, c < n → 0 < th c ∧ 0 < h c → ∃ j, j < L.length ∧ L.getD j 0 = c
theorem mo_ins2 {h th : Nat → Nat} {L : List Nat} {n : Nat} (hL : mo_ok h th n L) (hG : mo_g h th n L) {p : Nat} (hp : p ≤ L.length) (h1 : ∀ j, j < p → mo_q h th n (L.getD j 0) = false) (h2 : ∀ j, p ≤ j → j < L.length → mo_q h th n (L.getD j 0) = true) : mo_g h th (n + 1) (mo_i h th n L) := by
  have at_ := mo_i_at (c := n) L p hp h1 (fun hl => h2 p (Nat.le_refl _) hl)
  refine ⟨fun i j hij hj => ?_, fun c hc hk => ?_⟩
  · rw [mo_i_len] at hj
    rw [at_ i, at_ j]
    by_cases a : j < p
    · rw [if_pos a, if_pos (by omega)]; exact hG.1 i j hij (by omega)
    · rw [if_neg a]
      by_cases b : j = p
      · rw [if_pos b, if_pos (by omega)]
        exact ⟨h1 i (by omega), Or.inr (hL.2.2 i (by omega)).1⟩
      · rw [if_neg b]
        by_cases d : i < p
        · rw [if_pos d]; exact hG.1 i (j - 1) (by omega) (by omega)
        · rw [if_neg d]
          by_cases e : i = p
          · rw [if_pos e]
            have := h2 (j - 1) (by omega) (by omega)
            exact ⟨q_as this, Or.inl this⟩
          · rw [if_neg e]; exact hG.1 (i - 1) (j - 1) (by omega) (by omega)
  · rw [mo_i_len]
    by_cases e : c = n
    · refine ⟨p, by omega, ?_⟩
      rw [at_ p, if_neg (by omega), if_pos rfl, e]
    · obtain ⟨j, hj, ej⟩ := hG.2 c (by omega) hk
      by_cases hjp : j < p
      · refine ⟨j, by omega, ?_⟩
        rw [at_ j, if_pos hjp, ej]
      · refine ⟨j + 1, by omega, ?_⟩
        rw [at_ (j + 1), if_neg (by omega), if_neg (by omega), Nat.add_sub_cancel, ej]
theorem mo_o_g {h th : Nat → Nat} : ∀ n, mo_g h th n (mo_o h th n)
  | 0 => ⟨fun i j _ hj => absurd hj (Nat.not_lt_zero _), fun c hc => absurd hc (Nat.not_lt_zero _)⟩
  | n + 1 => by
    have ih := mo_o_g (h := h) (th := th) n
    have io := mo_o_ok (h := h) (th := th) n
    unfold mo_o
    split
    · rename_i hc
      obtain ⟨p, a, b, e⟩ := mo_p io n
      exact mo_ins2 io ih a b e
    · rename_i hc
      refine ⟨ih.1, fun c hcn hk => ?_⟩
      by_cases e : c = n
      · subst e; exact absurd hk hc
      · exact ih.2 c (by omega) hk
/-- the next of the order is the best of those that are not had -/
theorem mo_next {h th : Nat → Nat} {B : Nat → Bool} {n : Nat} (hn : n ≤ (mo_o h th 32).length) (hB : ∀ c, c < 32 → (B c = true ↔ ∃ j, j < n ∧ (mo_o h th 32).getD j 0 = c)) :
    pk_b (fun c => decide (0 < th c ∧ 0 < h c) && !B c) (mo_q h th) 32 = if n < (mo_o h th 32).length then some ((mo_o h th 32).getD n 0) else none := by
  have io := mo_o_ok (h := h) (th := th) 32
  have ig := mo_o_g (h := h) (th := th) 32
  generalize mo_o h th 32 = L at *
  have hcan : ∀ x, (decide (0 < th x ∧ 0 < h x) && !B x) = true → (0 < th x ∧ 0 < h x) ∧ B x = false := fun x hx => by simpa using hx
  have inj : ∀ i j, i < L.length → j < L.length → L.getD i 0 = L.getD j 0 → i = j := by
    intro i j hi hj e
    rcases Nat.lt_trichotomy i j with a | a | a
    · have := ig.1 i j a hj
      rw [e] at this
      rcases this.2 with b | b
      · rw [this.1] at b; simp at b
      · omega
    · exact a
    · have := ig.1 j i a hi
      rw [e] at this
      rcases this.2 with b | b
      · rw [this.1] at b; simp at b
      · omega
  rcases pk_spec (can := fun c => decide (0 < th c ∧ 0 < h c) && !B c) (bet := mo_q h th) (fun x y _ _ k => q_as k) (fun c x y hc hx hy k1 k2 => q_tr (hcan x hx).1.1 (hcan y hy).1.1 k1 k2) 32 with ⟨e, hno⟩ | ⟨b, e, hb, hcb, h1, h2⟩
  · rw [e]
    by_cases hl : n < L.length
    · have hk := io.2.2 n hl
      have := hno (L.getD n 0) hk.1
      have hBn : B (L.getD n 0) = false := by
        cases x : B (L.getD n 0) with
        | false => rfl
        | true =>
          obtain ⟨j, hj, ej⟩ := (hB _ hk.1).mp x
          have := inj j n (by omega) hl ej
          omega
      rw [hBn, decide_eq_true hk.2] at this
      exact absurd this (by decide)
    · rw [if_neg hl]
  · rw [e]
    have hcb' := hcan b hcb
    obtain ⟨m, hm, em⟩ := ig.2 b hb hcb'.1
    have hmn : n ≤ m := by
      rcases Nat.lt_or_ge m n with a | a
      · have := (hB b hb).mpr ⟨m, a, em⟩
        rw [hcb'.2] at this; simp at this
      · exact a
    rw [if_pos (by omega)]
    by_cases emn : m = n
    · rw [← emn, em]
    · have hk := io.2.2 n (by omega)
      have hBn : B (L.getD n 0) = false := by
        cases x : B (L.getD n 0) with
        | false => rfl
        | true =>
          obtain ⟨j, hj, ej⟩ := (hB _ hk.1).mp x
          have := inj j n (by omega) (by omega) ej
          omega
      have hcn : (decide (0 < th (L.getD n 0) ∧ 0 < h (L.getD n 0)) && !B (L.getD n 0)) = true := by
        rw [hBn, decide_eq_true hk.2]; rfl
      have hg := ig.1 n m (by omega) hm
      rw [em] at hg
      rcases hg.2 with k | k
      · rw [h1 _ hk.1 hcn] at k; simp at k
      · have := h2 _ k hcn
        rw [hg.1] at this; simp at this
