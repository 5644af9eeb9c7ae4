/-! state: cells that are clear -/
theorem mo_tp {g : Nat → Option Nat} {hol sk : Nat → Nat} {k : Nat} (h : 0 < mo_t g hol sk k) : 0 < (mo_s g hol sk k).1 (sk (2 * k + 1)) := by
  have emt : mo_t g hol sk k = if 0 < (mo_s g hol sk k).1 (sk (2 * k + 1)) ∧ (mo_s g hol sk k).1 (sk (2 * k + 1)) ≤ (mo_s g hol sk k).2 (sk (2 * k)) then (mo_s g hol sk k).1 (sk (2 * k + 1)) else 0 := rfl
  by_cases hd : 0 < (mo_s g hol sk k).1 (sk (2 * k + 1)) ∧ (mo_s g hol sk k).1 (sk (2 * k + 1)) ≤ (mo_s g hol sk k).2 (sk (2 * k))
  · exact hd.1
  · rw [if_neg hd] at emt; omega
theorem clr_n {g : Nat → Option Nat} {hol sk : Nat → Nat} (hsk : ∀ i, i < 40 → sk (2 * i) < 4 ∧ sk (2 * i + 1) < 32) : ∀ k, k ≤ 40 → su (fun c => if g c ≠ none ∧ (mo_s g hol sk k).1 c = 0 then 1 else 0) 32 = su (fun c => ou0 (g c)) 32 + su (fun i => if mo_t g hol sk i = 0 then 0 else 1) k
  | 0, _ => by
    show _ = _ + 0
    rw [Nat.add_zero]
    refine su_congr (fun c _ => ?_)
    show (if g c ≠ none ∧ (g c).getD 0 = 0 then 1 else 0) = ou0 (g c)
    cases hg : g c with
    | none => rw [if_neg (fun h => h.1 rfl)]; rfl
    | some v =>
      cases v with
      | zero => rw [if_pos ⟨by simp, rfl⟩]; rfl
      | succ v => rw [if_neg (fun h => by simp at h)]; rfl
  | k + 1, hk => by
    have ih := clr_n (g := g) (hol := hol) hsk k (by omega)
    show _ = _ + (su (fun i => if mo_t g hol sk i = 0 then 0 else 1) k + (if mo_t g hol sk k = 0 then 0 else 1))
    rw [← Nat.add_assoc, ← ih]
    by_cases e : mo_t g hol sk k = 0
    · rw [if_pos e]
      have hs : ∀ c, (mo_s g hol sk (k + 1)).1 c = (mo_s g hol sk k).1 c := fun c => by rw [mo_st, if_neg (fun h => by omega)]
      simp only [hs, Nat.add_zero]
    · rw [if_neg e]
      have hp := mo_tp (g := g) (hol := hol) (sk := sk) (k := k) (by omega)
      have hg : g (sk (2 * k + 1)) ≠ none := fun h => by have := mo_0 (hol := hol) (sk := sk) (k := k) h; omega
      have hu := su_upd (f := fun c => if g c ≠ none ∧ (mo_s g hol sk k).1 c = 0 then 1 else 0) (p := sk (2 * k + 1)) (v := 1) (n := 32) (hsk k (by omega)).2
      have hz : (if g (sk (2 * k + 1)) ≠ none ∧ (mo_s g hol sk k).1 (sk (2 * k + 1)) = 0 then 1 else 0) = 0 := if_neg (fun h => by have := h.2; omega)
      rw [hz, Nat.add_zero] at hu
      rw [← hu]
      refine su_congr (fun c _ => ?_)
      rw [mo_st]
      by_cases ec : c = sk (2 * k + 1)
      · rw [if_pos (show 0 < mo_t g hol sk k ∧ sk (2 * k + 1) = c from ⟨by omega, ec.symm⟩), if_pos ec, if_pos ⟨by rw [ec]; exact hg, rfl⟩]
      · rw [if_neg (show ¬ (0 < mo_t g hol sk k ∧ sk (2 * k + 1) = c) from fun h => ec h.2.symm), if_neg ec]
