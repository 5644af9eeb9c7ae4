/-! loops as programs: what they come to -/
theorem lp_run {β γ : Type} {body : β → Option (β ⊕ γ)} (I : Nat → β → Prop) (Q : γ → Prop) (e : Nat)
    (hs : ∀ i b, i < e → I i b → (∃ b', body b = some (.inl b') ∧ I (i + 1) b') ∨ (∃ c, body b = some (.inr c) ∧ Q c))
    (hx : ∀ b, I e b → ∃ c, body b = some (.inr c) ∧ Q c) : ∀ (N i : Nat) (b : β), i ≤ e → e - i < N → I i b → ∃ c, fr_loop body N b = some c ∧ Q c := by
  intro N
  induction N with
  | zero => intro i b _ h; omega
  | succ N ih =>
    intro i b hi hN hI
    rcases Nat.lt_or_ge i e with h | h
    · rcases hs i b h hI with ⟨b', h1, h2⟩ | ⟨c, h1, h2⟩
      · obtain ⟨c, h3, h4⟩ := ih (i + 1) b' (by omega) (by omega) h2
        exact ⟨c, by unfold fr_loop; rw [h1]; exact h3, h4⟩
      · exact ⟨c, by unfold fr_loop; rw [h1]; rfl, h2⟩
    · have : i = e := by omega
      subst this
      obtain ⟨c, h1, h2⟩ := hx b hI
      exact ⟨c, by unfold fr_loop; rw [h1]; rfl, h2⟩
/-- the same with the loop's own fuel -/
theorem lp_fu {β γ : Type} {body : β → Option (β ⊕ γ)} (I : Nat → β → Prop) (Q : γ → Prop) (e : Nat) (he : e < 10000)
    (hs : ∀ i b, i < e → I i b → (∃ b', body b = some (.inl b') ∧ I (i + 1) b') ∨ (∃ c, body b = some (.inr c) ∧ Q c))
    (hx : ∀ b, I e b → ∃ c, body b = some (.inr c) ∧ Q c) (i : Nat) (b : β) (hi : i ≤ e) (hI : I i b) : ∃ c, fr_loop body fr_fu b = some c ∧ Q c :=
  lp_run I Q e hs hx fr_fu i b hi (by have := fr_fu_ge; omega) hI
/-- a loop whose states are told: at i the state S i; at e it ends with c -/
theorem lp_seq {β γ : Type} {body : β → Option (β ⊕ γ)} (S : Nat → β) (e : Nat) (c : γ) (he : e < 10000)
    (hs : ∀ i, i < e → body (S i) = some (.inl (S (i + 1)))) (hx : body (S e) = some (.inr c)) (i : Nat) (hi : i ≤ e) : fr_loop body fr_fu (S i) = some c := by
  obtain ⟨c', h1, h2⟩ := lp_fu (body := body) (fun i b => b = S i) (fun c' => c' = c) e he (fun i b h hb => by subst hb; exact Or.inl ⟨_, hs i h, rfl⟩) (fun b hb => by subst hb; exact ⟨c, hx, rfl⟩) i (S i) hi rfl
  rw [h1, h2]
theorem fr_row_self {σ : fr_St} {q : Nat} {f : Nat → Int32} : fr_row σ q f q = f := by simp [fr_row]
theorem fr_row_ne {σ : fr_St} {q a : Nat} {f : Nat → Int32} (h : a ≠ q) : fr_row σ q f a = σ a := by simp [fr_row, h]
theorem fr_row_row {σ : fr_St} {q : Nat} {f f' : Nat → Int32} : fr_row (fr_row σ q f) q f' = fr_row σ q f' := by
  funext a
  by_cases h : a = q <;> simp [fr_row, h]
theorem fr_row_id {σ : fr_St} {q : Nat} : fr_row σ q (σ q) = σ := by
  funext a
  by_cases h : a = q
  · subst h; simp [fr_row]
  · simp [fr_row, h]
theorem fr_put_row {σ : fr_St} {q j : Nat} {f : Nat → Int32} {v : Int32} : fr_put (fr_row σ q f) q j v = fr_row σ q (upd f j v) := by
  unfold fr_put
  rw [fr_row_self, fr_row_row]
theorem fr_al_nI {n : Nat} {σ : fr_St} {q i : Nat} (h : i < n) (hn : n < 2 ^ 31) : fr_al n σ q (nI i) = some (σ q i) := by
  unfold fr_al
  rw [if_pos ⟨by rw [nI_toInt (by omega)]; omega, by rw [nI_toInt (by omega)]; omega⟩, nI_clamp (by omega)]
theorem fr_as_nI {n : Nat} {σ : fr_St} {q i : Nat} {v : Int32} (h : i < n) (hn : n < 2 ^ 31) : fr_as n σ q (nI i) v = some (fr_put σ q i v) := by
  unfold fr_as
  rw [if_pos ⟨by rw [nI_toInt (by omega)]; omega, by rw [nI_toInt (by omega)]; omega⟩, nI_clamp (by omega)]
theorem fr_ar_nI {n i : Nat} (h : i < n) (hn : n < 2 ^ 31) : fr_ar n (nI i) = some i := by
  unfold fr_ar
  rw [if_pos ⟨by rw [nI_toInt (by omega)]; omega, by rw [nI_toInt (by omega)]; omega⟩, nI_clamp (by omega)]
theorem zfill (σ : fr_St) (q n : Nat) (v : Int32) (hn : n < 9000) : zJ7_fill_53178 σ q n v = some (fr_row σ q (fun j => if j < n then v else σ q j)) := by
  unfold zJ7_fill_53178
  have h := lp_seq (body := fun b1 : Int32 × fr_St => zJ7_fill_53178_L5 q n v (Int32.ofNat n) b1.1 b1.2) (fun i => (nI i, fr_row σ q (fun j => if j < i then v else σ q j))) n (fr_row σ q (fun j => if j < n then v else σ q j)) (by omega) (fun i hi => by
      show zJ7_fill_53178_L5 q n v (nI n) (nI i) _ = _
      unfold zJ7_fill_53178_L5
      rw [if_neg (nI_ge hi (by omega)), fr_as_nI hi (by omega), fr_put_row]
      show some (Sum.inl (nI i + 1, _)) = _
      rw [nI_1]
      congr 4
      funext j
      simp only [upd]
      by_cases h1 : j = i
      · subst h1; simp
      · by_cases h2 : j < i
        · simp [h1, h2, show j < i + 1 by omega]
        · simp [h1, h2, show ¬ j < i + 1 by omega]) (by
      show zJ7_fill_53178_L5 q n v (nI n) (nI n) _ = _
      unfold zJ7_fill_53178_L5
      rw [if_pos (nI_le (Nat.le_refl n) (by omega))]) 0 (by omega)
  have e0 : ((nI 0, fr_row σ q (fun j => if j < 0 then v else σ q j)) : Int32 × fr_St) = (0, σ) := by
    simp [fr_row_id, nI_0]
  rw [e0] at h
  rw [h]
  rfl
