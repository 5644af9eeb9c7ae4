/-! the morning: what the class weighs -/
theorem put_put {σ : fr_St} {q j : Nat} {v w : Int32} : fr_put (fr_put σ q j v) q j w = fr_put σ q j w := by
  unfold fr_put
  rw [fr_row_self, fr_row_row]
  congr 1
  funext b
  simp only [upd_at]
  by_cases h : b = j
  · rw [if_pos h, if_pos h]
  · rw [if_neg h, if_neg h, if_neg h]
def fxw (σ σ' : fr_St) : Prop := ∀ q, q ≠ 17 → q ≠ 21 → q ≠ 23 → σ' q = σ q
theorem xw_kinds {m lk : Nat → Nat} {σ : fr_St} {c : Nat} (hc : c < 32) (h8 : ∀ k, k < 5 → σ 8 k = nI (m k)) (h13 : ∀ j, j < 160 → σ 13 j = nI (lk j)) :
    fr_loop (fun (b2 : Int32 × fr_St) => zX1_weigh_L31 (nI c) b2.1 b2.2) fr_fu (0, fr_put σ 21 c 0) = some (fr_put σ 21 c (nI (su (fun k => m k * lk (32 * k + c)) 5))) := by
  refine lp_seq (body := fun (b2 : Int32 × fr_St) => zX1_weigh_L31 (nI c) b2.1 b2.2) (fun k => (nI k, fr_put σ 21 c (nI (su (fun k => m k * lk (32 * k + c)) k)))) 5 _ (by omega) (fun k hk => ?_) ?_ 0 (by omega)
  · show zX1_weigh_L31 (nI c) (nI k) _ = _
    unfold zX1_weigh_L31
    rw [if_neg (show ¬ 5 ≤ nI k from nI_ge (b := 5) hk (by decide)), fr_al_nI hc (by decide), Option.bind_some, fr_al_nI hk (by decide), Option.bind_some, show nI k * 32 + nI c = nI (32 * k + c) by rw [show (32 : Int32) = nI 32 from rfl, pk_mul, nI_add, Nat.mul_comm], fr_al_nI (show 32 * k + c < 160 by omega) (by decide), Option.bind_some, fr_as_nI hc (by decide), Option.bind_some, put_put]
    dsimp only
    rw [show (fr_put σ 21 c (nI (su (fun k => m k * lk (32 * k + c)) k))) 8 k = nI (m k) from h8 k hk, show (fr_put σ 21 c (nI (su (fun k => m k * lk (32 * k + c)) k))) 13 (32 * k + c) = nI (lk (32 * k + c)) from h13 _ (by omega), show (fr_put σ 21 c (nI (su (fun k => m k * lk (32 * k + c)) k))) 21 c = nI (su (fun k => m k * lk (32 * k + c)) k) by simp [fr_put_at, upd_at], pk_mul, nI_add, nI_1]
    rfl
  · show zX1_weigh_L31 (nI c) (nI 5) _ = _
    unfold zX1_weigh_L31
    rw [if_pos (by decide)]
theorem xw_weigh {g : Nat → Option Nat} {m lk th : Nat → Nat} {σ : fr_St} (h9 : ∀ c, th c ≤ 9) (h0 : ∀ c, g c = none → th c = 0) (h8 : ∀ k, k < 5 → σ 8 k = nI (m k)) (h13 : ∀ j, j < 160 → σ 13 j = nI (lk j)) (h19 : ∀ c, c < 32 → σ 19 c = oT g th c) :
    ∃ σ', zX1_weigh σ = some σ' ∧ (∀ c, c < 32 → σ' 21 c = nI (su (fun k => m k * lk (32 * k + c)) 5)) ∧ σ' 17 7 = nI (su th 32) ∧ (∀ l, 1 ≤ l → l < 10 → σ' 23 l = nI (su (fun c => if th c = l then 1 else 0) 32)) ∧ fxw σ σ' := by
  unfold zX1_weigh
  rw [zfill _ _ _ _ (by decide), Option.bind_some]
  obtain ⟨z, hz, hQ⟩ := lp_fu (body := fun (b2 : Int32 × fr_St) => zX1_weigh_L15 b2.1 b2.2)
    (fun i b => ∃ σ', b = (nI i, σ') ∧ (∀ c, c < i → σ' 21 c = nI (su (fun k => m k * lk (32 * k + c)) 5)) ∧ σ' 17 7 = nI (su th i) ∧ (∀ l, 1 ≤ l → l < 10 → σ' 23 l = nI (su (fun c => if th c = l then 1 else 0) i)) ∧ fxw σ σ')
    (fun σ' => (∀ c, c < 32 → σ' 21 c = nI (su (fun k => m k * lk (32 * k + c)) 5)) ∧ σ' 17 7 = nI (su th 32) ∧ (∀ l, 1 ≤ l → l < 10 → σ' 23 l = nI (su (fun c => if th c = l then 1 else 0) 32)) ∧ fxw σ σ') 32 (by omega)
    (fun i b hi hI => by
      obtain ⟨σ', rfl, h21, h17, h23, hf⟩ := hI
      left
      show ∃ b', zX1_weigh_L15 (nI i) σ' = _ ∧ _
      unfold zX1_weigh_L15
      rw [if_neg (show ¬ 32 ≤ nI i from nI_ge (b := 32) hi (by decide)), fr_as_nI hi (by decide), Option.bind_some, xw_kinds hi (fun k hk => by rw [hf 8 (by decide) (by decide) (by decide)]; exact h8 k hk) (fun k hk => by rw [hf 13 (by decide) (by decide) (by decide)]; exact h13 k hk), Option.bind_some, fr_al_nI hi (by decide), Option.bind_some, Option.bind_some]
      have e19 : (fr_put σ' 21 i (nI (su (fun k => m k * lk (32 * k + i)) 5))) 19 i = oT g th i := by
        show σ' 19 i = _
        rw [hf 19 (by decide) (by decide) (by decide)]
        exact h19 i hi
      have g21 : ∀ c, c < i + 1 → (fr_put σ' 21 i (nI (su (fun k => m k * lk (32 * k + i)) 5))) 21 c = nI (su (fun k => m k * lk (32 * k + c)) 5) := fun c hc => by
        by_cases e : c = i
        · subst e; simp [fr_put_at, upd_at]
        · have := h21 c (by omega)
          simpa [fr_put_at, upd_at, e] using this
      have gf : fxw σ (fr_put σ' 21 i (nI (su (fun k => m k * lk (32 * k + i)) 5))) := fun q a b c => by
        rw [fr_put_at, if_neg b]; exact hf q a b c
      have g17 : (fr_put σ' 21 i (nI (su (fun k => m k * lk (32 * k + i)) 5))) 17 7 = nI (su th i) := h17
      have g23 : ∀ l, 1 ≤ l → l < 10 → (fr_put σ' 21 i (nI (su (fun k => m k * lk (32 * k + i)) 5))) 23 l = nI (su (fun c => if th c = l then 1 else 0) i) := h23
      generalize fr_put σ' 21 i (nI (su (fun k => m k * lk (32 * k + i)) 5)) = τ at *
      rw [e19]
      by_cases hg : g i = none
      · have e0 : th i = 0 := h0 i hg
        rw [if_pos (show zX9_within (oT g th i) 0 9 = 0 by unfold oT; rw [if_pos hg]; decide)]
        refine ⟨_, rfl, τ, by rw [nI_1], g21, ?_, fun l h1 h2 => ?_, gf⟩
        · show _ = nI (su th i + th i)
          rw [e0]; exact g17
        · show _ = nI (su _ i + (if th i = l then 1 else 0))
          rw [if_neg (by omega)]; exact g23 l h1 h2
      · have eT : oT g th i = nI (th i) := by unfold oT; rw [if_neg hg]
        rw [eT, show zX9_within (nI (th i)) 0 9 = 1 from wi_nI (m := 9) (h9 i) (by decide), if10, fr_al_nI (show th i < 10 by have := h9 i; omega) (by decide), Option.bind_some, fr_as_nI (show th i < 10 by have := h9 i; omega) (by decide), Option.bind_some, fr_al_nI hi (by decide), Option.bind_some]
        refine ⟨_, rfl, fr_put (fr_put τ 23 (th i) (τ 23 (th i) + 1)) 17 7 (nI (su th i + th i)), ?_, fun c hc => ?_, ?_, fun l h1 h2 => ?_, fun q a b c => ?_⟩
        · rw [nI_1, show (fr_put τ 23 (th i) (τ 23 (th i) + 1)) 17 7 = nI (su th i) from g17, show (fr_put τ 23 (th i) (τ 23 (th i) + 1)) 19 i = nI (th i) from e19.trans eT, nI_add]
        · have := g21 c hc
          simpa [fr_put_at, upd_at] using this
        · simp [fr_put_at, upd_at, su]
        · show (fr_put τ 23 (th i) (τ 23 (th i) + 1)) 23 l = nI (su _ i + (if th i = l then 1 else 0))
          by_cases e : l = th i
          · have := g23 l h1 h2
            rw [if_pos e.symm, ← nI_1, ← this, e]
            simp [fr_put_at, upd_at]
          · have := g23 l h1 h2
            rw [if_neg (fun h => e h.symm), Nat.add_zero, ← this]
            simp [fr_put_at, upd_at, e]
        · simp only [fr_put_at]
          rw [if_neg a, if_neg c]
          exact gf q a b c)
    (fun b hI => by
      obtain ⟨σ', rfl, h⟩ := hI
      refine ⟨σ', ?_, h⟩
      show zX1_weigh_L15 (nI 32) σ' = _
      unfold zX1_weigh_L15
      rw [if_pos (by decide)])
    0 (0, fr_put (fr_row σ 23 (fun j => if j < 10 then 0 else σ 23 j)) 17 7 0) (by omega) ⟨_, rfl, fun c hc => by omega, by simp [fr_put_at, upd_at, su, nI_0], fun l h1 h2 => by simp [fr_put_at, fr_row_at, su, nI_0, h2], fun q a b c => by rw [fr_put_at, if_neg a, fr_row_ne c]⟩
  rw [hz, Option.bind_some]
  exact ⟨z, rfl, hQ⟩
