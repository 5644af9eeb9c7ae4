/-! state: the risk behind k strokes -/
theorem rk_n {g : Nat → Option Nat} {hol sk h : Nat → Nat} (hsk : ∀ i, i < 40 → sk (2 * i) < 4 ∧ sk (2 * i + 1) < 32) : ∀ k, k ≤ 40 → su (fun c => if 0 < (mo_s g hol sk k).1 c then h c else 0) 32 + su (fun i => if mo_t g hol sk i = 0 then 0 else h (sk (2 * i + 1))) k = su (fun c => if 0 < (g c).getD 0 then h c else 0) 32
  | 0, _ => rfl
  | k + 1, hk => by
    have ih := rk_n (g := g) (hol := hol) (h := h) hsk k (by omega)
    rw [← ih]
    have es : su (fun i => if mo_t g hol sk i = 0 then 0 else h (sk (2 * i + 1))) (k + 1) = su (fun i => if mo_t g hol sk i = 0 then 0 else h (sk (2 * i + 1))) k + (if mo_t g hol sk k = 0 then 0 else h (sk (2 * k + 1))) := rfl
    rw [es]
    by_cases e : mo_t g hol sk k = 0
    · have hs : ∀ c, (mo_s g hol sk (k + 1)).1 c = (mo_s g hol sk k).1 c := fun c => by rw [mo_st, if_neg (fun h => by omega)]
      rw [if_pos e]
      simp only [hs, Nat.add_zero]
    · rw [if_neg e]
      have hp := mo_tp (g := g) (hol := hol) (sk := sk) (k := k) (by omega)
      have hu := su_upd (f := fun c => if 0 < (mo_s g hol sk k).1 c then h c else 0) (p := sk (2 * k + 1)) (v := 0) (n := 32) (hsk k (by omega)).2
      have hz : (if 0 < (mo_s g hol sk k).1 (sk (2 * k + 1)) then h (sk (2 * k + 1)) else 0) = h (sk (2 * k + 1)) := if_pos hp
      rw [hz, Nat.add_zero] at hu
      have hc : su (fun c => if 0 < (mo_s g hol sk (k + 1)).1 c then h c else 0) 32 = su (fun i => if i = sk (2 * k + 1) then 0 else if 0 < (mo_s g hol sk k).1 i then h i else 0) 32 := by
        congr 1
        funext c
        rw [mo_st]
        by_cases ec : c = sk (2 * k + 1)
        · rw [if_pos ec, if_pos (show 0 < mo_t g hol sk k ∧ sk (2 * k + 1) = c from ⟨by omega, ec.symm⟩), if_neg (by omega)]
        · rw [if_neg ec, if_neg (show ¬ (0 < mo_t g hol sk k ∧ sk (2 * k + 1) = c) from fun h => ec h.2.symm)]
      rw [hc]
      omega
