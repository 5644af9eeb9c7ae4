/-! state -/
theorem x_sec {f sk sec : Nat → Nat} {k : Nat} {σ : fr_St} (hk : k ≤ 40) (hsk : ∀ i, i < 40 → sk (2 * i) < 4 ∧ sk (2 * i + 1) < 32) (h18 : ∀ i, i < k → σ 18 i = nI (f i)) (h15 : ∀ i, i < 40 → σ 15 i = nI (sk (2 * i))) (h10 : ∀ t, t < 4 → σ 10 t = nI (sec t)) : zX1_secondsBehind σ (nI k) = some (nI (su (fun i => f i * sec (sk (2 * i))) k)) := by
  unfold zX1_secondsBehind
  have h := lp_seq (body := fun (b1 : Int32 × Int32) => zX1_secondsBehind_L6 σ (nI k) b1.1 b1.2) (fun i => (nI (su (fun i => f i * sec (sk (2 * i))) i), nI i)) k (nI (su (fun i => f i * sec (sk (2 * i))) k)) (by omega) (fun i hi => by
      show zX1_secondsBehind_L6 σ (nI k) (nI (su (fun i => f i * sec (sk (2 * i))) i)) (nI i) = some (.inl (nI (su (fun i => f i * sec (sk (2 * i))) i + f i * sec (sk (2 * i))), nI (i + 1)))
      unfold zX1_secondsBehind_L6 zX9_isTool
      have ht := (hsk i (by omega)).1
      rw [if_neg (nI_ge hi (by omega)), if_neg (show ¬ 40 ≤ nI i from nI_ge (b := 40) (by omega) (by decide)), fr_al_nI (show i < 40 by omega) (by decide), Option.bind_some, h15 i (by omega), show zX9_within (nI (sk (2 * i))) 0 3 = 1 from wi_nI (m := 3) (by omega) (by decide), if10, fr_al_nI (show i < 40 by omega) (by decide), Option.bind_some, fr_al_nI ht (by decide), Option.bind_some, h18 i hi, h10 _ ht, pk_mul, nI_add, nI_1]) (by
      show zX1_secondsBehind_L6 σ (nI k) _ (nI k) = _
      unfold zX1_secondsBehind_L6
      rw [if_pos (nI_le (Nat.le_refl _) (by omega))]) 0 (by omega)
  rw [show fr_loop (fun (b1 : Int32 × Int32) => zX1_secondsBehind_L6 σ (nI k) b1.1 b1.2) fr_fu (0, 0) = some (nI (su (fun i => f i * sec (sk (2 * i))) k)) from h, Option.bind_some]
theorem x_done {f : Nat → Nat} {k : Nat} {σ : fr_St} (hk : k ≤ 40) (hf : ∀ i, f i ≤ 9) (h18 : ∀ i, i < k → σ 18 i = nI (f i)) : zX1_doneBehind σ (nI k) = some (nI (su (fun i => if f i = 0 then 0 else 1) k)) := by
  unfold zX1_doneBehind
  have h := lp_seq (body := fun (b1 : Int32 × Int32) => zX1_doneBehind_L4 σ (nI k) b1.1 b1.2) (fun i => (nI (su (fun i => if f i = 0 then 0 else 1) i), nI i)) k (nI (su (fun i => if f i = 0 then 0 else 1) k)) (by omega) (fun i hi => by
      show zX1_doneBehind_L4 σ (nI k) (nI (su (fun i => if f i = 0 then 0 else 1) i)) (nI i) = some (.inl (nI (su (fun i => if f i = 0 then 0 else 1) i + (if f i = 0 then 0 else 1)), nI (i + 1)))
      unfold zX1_doneBehind_L4
      have := hf i
      rw [if_neg (nI_ge hi (by omega)), if_neg (show ¬ 40 ≤ nI i from nI_ge (b := 40) (by omega) (by decide)), fr_al_nI (show i < 40 by omega) (by decide), Option.bind_some, h18 i hi, nI_1]
      by_cases e : f i = 0
      · rw [if_pos (by rw [nI_le0 (by omega)]; exact e), if_pos e, show (0 : Int32) = nI 0 from rfl, nI_add]
      · rw [if_neg (nI_nle (by omega) (by omega)), if_neg e, nI_1]) (by
      show zX1_doneBehind_L4 σ (nI k) _ (nI k) = _
      unfold zX1_doneBehind_L4
      rw [if_pos (nI_le (Nat.le_refl _) (by omega))]) 0 (by omega)
  rw [show fr_loop (fun (b1 : Int32 × Int32) => zX1_doneBehind_L4 σ (nI k) b1.1 b1.2) fr_fu (0, 0) = some (nI (su (fun i => if f i = 0 then 0 else 1) k)) from h, Option.bind_some]
theorem m_clear {g : Nat → Option Nat} {th : Nat → Nat} {σ : fr_St} (h9 : ∀ c, th c ≤ 9) (h7 : ∀ c, c < 32 → σ 7 c = nI (ouS (g c))) (hw : ∀ c, c < 32 → σ 9 c = nI (th c)) : zX10_clear σ = some (nI (su (fun c => if g c ≠ none ∧ th c = 0 then 1 else 0) 32)) := by
  unfold zX10_clear
  have h := lp_seq (body := fun (b1 : Int32 × Int32) => zX10_clear_L4 σ b1.1 b1.2) (fun i => (nI (su (fun c => if g c ≠ none ∧ th c = 0 then 1 else 0) i), nI i)) 32 (nI (su (fun c => if g c ≠ none ∧ th c = 0 then 1 else 0) 32)) (by omega) (fun i hi => by
      show zX10_clear_L4 σ (nI (su (fun c => if g c ≠ none ∧ th c = 0 then 1 else 0) i)) (nI i) = some (.inl (nI (su (fun c => if g c ≠ none ∧ th c = 0 then 1 else 0) i + (if g i ≠ none ∧ th i = 0 then 1 else 0)), nI (i + 1)))
      unfold zX10_clear_L4
      have := h9 i
      rw [if_neg (show ¬ 32 ≤ nI i from nI_ge (b := 32) hi (by decide)), fr_al_nI hi (by decide), Option.bind_some, h7 i hi, fr_al_nI hi (by decide), Option.bind_some, hw i hi, nI_1]
      cases hg : g i with
      | none => rw [if_pos (show nI (ouS none) = 0 from rfl), if_neg (fun h => h.1 rfl), show (0 : Int32) = nI 0 from rfl, nI_add]
      | some v =>
        rw [if_neg (show ¬ nI (ouS (some v)) = 0 from (by decide : ¬ nI 1 = 0))]
        by_cases e : th i = 0
        · rw [if_pos (by rw [e]; rfl), if_pos ⟨by simp, e⟩, nI_1]
        · rw [if_neg (nI_ne0 (by omega) (by omega)), if_neg (fun h => e h.2), show (0 : Int32) = nI 0 from rfl, nI_add]) (by
      show zX10_clear_L4 σ _ (nI 32) = _
      unfold zX10_clear_L4
      rw [if_pos (by decide)]) 0 (by omega)
  rw [show fr_loop (fun (b1 : Int32 × Int32) => zX10_clear_L4 σ b1.1 b1.2) fr_fu (0, 0) = some (nI (su (fun c => if g c ≠ none ∧ th c = 0 then 1 else 0) 32)) from h, Option.bind_some]
