/-! the reference's parts of the road's risk -/
theorem m_part1 {T lk th : Nat → Nat} {n c : Nat} {σ : fr_St} (hc : c < 32) (hn : n ≤ 40) (h14 : σ 0 14 = nI (rd_n T n)) (h10 : ∀ i, i < rd_n T n → ∃ k, k < 5 ∧ rd_k (T i) = some k ∧ σ 10 i = nI k) (h9 : th c ≤ 9) (h13 : ∀ j, j < 160 → σ 13 j = nI (lk j)) (hw : σ 9 c = nI (th c)) :
    fr_loop (fun (b2 : Int32 × fr_St) => zX10_findParts_L17 (nI c) b2.1 b2.2) fr_fu (0, fr_put σ 17 c 0) = some (fr_put σ 17 c (nI (if 0 < th c then mo_h T n lk c else 0))) := by
  have hN : rd_n T n ≤ 40 := Nat.le_trans rd_le hn
  by_cases t0 : 0 < th c
  · rw [if_pos t0, ← rd_sum (lk := lk) (c := c) (kd := fun j => (rd_k (T j)).getD 0) (fun j hj => by
      obtain ⟨k, hk, ek, _⟩ := h10 j hj
      rw [ek]
      exact ⟨hk, rfl⟩)]
    exact lp_seq (body := fun (b2 : Int32 × fr_St) => zX10_findParts_L17 (nI c) b2.1 b2.2) (fun i => (nI i, fr_put σ 17 c (nI (su (fun j => lk (32 * (rd_k (T j)).getD 0 + c)) i)))) (rd_n T n) _ (by omega) (fun i hi => by
      show zX10_findParts_L17 (nI c) (nI i) (fr_put σ 17 c (nI (su (fun j => lk (32 * (rd_k (T j)).getD 0 + c)) i))) = some (.inl (nI (i + 1), fr_put σ 17 c (nI (su (fun j => lk (32 * (rd_k (T j)).getD 0 + c)) i + lk (32 * (rd_k (T i)).getD 0 + c)))))
      generalize su (fun j => lk (32 * (rd_k (T j)).getD 0 + c)) i = A
      unfold zX10_findParts_L17
      obtain ⟨k, hk, ek, e10⟩ := h10 i hi
      rw [show (fr_put σ 17 c (nI A)) 0 14 = nI (rd_n T n) from h14, if_neg (nI_ge hi (by omega)), fr_al_nI hc (by decide), Option.bind_some, show (fr_put σ 17 c (nI A)) 9 c = nI (th c) from hw, if_neg (nI_nle t0 (by omega)), fr_al_nI hc (by decide), Option.bind_some, fr_al_nI (show i < 40 by omega) (by decide), Option.bind_some, show (fr_put σ 17 c (nI A)) 10 i = nI k from e10, show (32 : Int32) * nI k + nI c = nI (32 * k + c) by rw [show (32 : Int32) = nI 32 from rfl, pk_mul, nI_add], fr_al_nI (show 32 * k + c < 160 by omega) (by decide), Option.bind_some, fr_as_nI hc (by decide), Option.bind_some, show (fr_put σ 17 c (nI A)) 13 (32 * k + c) = nI (lk (32 * k + c)) from h13 _ (by omega), show (fr_put σ 17 c (nI A)) 17 c = nI A by simp [fr_put_at, upd_at], put_put, nI_add, nI_1, ek]
      rfl) (by
      show zX10_findParts_L17 (nI c) (nI (rd_n T n)) (fr_put σ 17 c _) = _
      unfold zX10_findParts_L17
      rw [if_pos (show (fr_put σ 17 c _) 0 14 ≤ nI (rd_n T n) by rw [show (fr_put σ 17 c _) 0 14 = nI (rd_n T n) from h14]; exact nI_le (Nat.le_refl _) (by omega))]) 0 (by omega)
  · rw [if_neg t0]
    exact lp_seq (body := fun (b2 : Int32 × fr_St) => zX10_findParts_L17 (nI c) b2.1 b2.2) (fun _ => (0, fr_put σ 17 c 0)) 0 _ (by omega) (fun i hi => by omega) (by
      show zX10_findParts_L17 (nI c) 0 (fr_put σ 17 c 0) = _
      unfold zX10_findParts_L17
      rw [fr_al_nI hc (by decide), Option.bind_some, show (fr_put σ 17 c 0) 9 c = nI (th c) from hw, if_pos (show nI (th c) ≤ 0 from (nI_le0 (by omega)).mpr (by omega))]
      by_cases e : (fr_put σ 17 c 0) 0 14 ≤ 0
      · rw [if_pos e]; rfl
      · rw [if_neg e]; rfl) 0 (by omega)
theorem m_parts {T lk th : Nat → Nat} {n : Nat} {σ : fr_St} (hn : n ≤ 40) (h14 : σ 0 14 = nI (rd_n T n)) (h10 : ∀ i, i < rd_n T n → ∃ k, k < 5 ∧ rd_k (T i) = some k ∧ σ 10 i = nI k) (h9 : ∀ c, th c ≤ 9) (h13 : ∀ j, j < 160 → σ 13 j = nI (lk j)) (hw : ∀ c, c < 32 → σ 9 c = nI (th c)) :
    ∃ f : Nat → Int32, zX10_findParts σ = some (fr_row σ 17 f) ∧ ∀ c, c < 32 → f c = nI (if 0 < th c then mo_h T n lk c else 0) := by
  unfold zX10_findParts
  obtain ⟨z, hz, f, rfl, hf⟩ := lp_fu (body := fun (b1 : Int32 × fr_St) => zX10_findParts_L2 b1.1 b1.2)
    (fun i b => ∃ f : Nat → Int32, b = (nI i, fr_row σ 17 f) ∧ ∀ c, c < i → f c = nI (if 0 < th c then mo_h T n lk c else 0))
    (fun z => ∃ f : Nat → Int32, z = fr_row σ 17 f ∧ ∀ c, c < 32 → f c = nI (if 0 < th c then mo_h T n lk c else 0)) 32 (by omega)
    (fun i b hi hI => by
      obtain ⟨f, rfl, hf⟩ := hI
      left
      show ∃ b', zX10_findParts_L2 (nI i) (fr_row σ 17 f) = _ ∧ _
      unfold zX10_findParts_L2
      rw [if_neg (show ¬ 32 ≤ nI i from nI_ge (b := 32) hi (by decide)), fr_as_nI hi (by decide), Option.bind_some, m_part1 (σ := fr_row σ 17 f) (T := T) (lk := lk) (th := th) hi hn h14 h10 (h9 i) h13 (hw i hi), Option.bind_some, fr_put_row, nI_1]
      refine ⟨_, rfl, _, rfl, fun c hc => ?_⟩
      rw [upd_at]
      by_cases e : c = i
      · rw [if_pos e, e]
      · rw [if_neg e]; exact hf c (by omega))
    (fun b hI => by
      obtain ⟨f, rfl, hf⟩ := hI
      refine ⟨_, ?_, f, rfl, hf⟩
      show zX10_findParts_L2 (nI 32) _ = _
      unfold zX10_findParts_L2
      rw [if_pos (by decide)])
    0 (0, σ) (by omega) ⟨σ 17, by rw [fr_row_id]; rfl, fun c hc => by omega⟩
  rw [hz, Option.bind_some]
  exact ⟨f, rfl, hf⟩
