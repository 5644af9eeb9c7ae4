/-! state: the risk behind k strokes, by the class -/
theorem x_rb {g : Nat → Option Nat} {hol sk h : Nat → Nat} {k : Nat} {σ : fr_St} (hk : k ≤ 40) (hg : ∀ c, (g c).getD 0 ≤ 9) (hsk : ∀ i, i < 40 → sk (2 * i) < 4 ∧ sk (2 * i + 1) < 32) (h6 : ∀ c, c < 32 → σ 6 c = oI (g c)) (h21 : ∀ c, c < 32 → σ 21 c = nI (h c)) (h18 : ∀ i, i < k → σ 18 i = nI (mo_t g hol sk i)) (h16 : ∀ i, i < 40 → σ 16 i = nI (sk (2 * i + 1))) :
    zX1_riskBehind σ (nI k) = some (nI (su (fun c => if 0 < (mo_s g hol sk k).1 c then h c else 0) 32)) := by
  unfold zX1_riskBehind
  have l1 := lp_seq (body := fun (b1 : Int32 × Int32) => zX1_riskBehind_L6 σ (nI k) b1.1 b1.2) (fun i => (nI (su (fun c => if 0 < (g c).getD 0 then h c else 0) i), nI i)) 32 (nI (su (fun c => if 0 < (g c).getD 0 then h c else 0) 32)) (by omega) (fun i hi => by
      show zX1_riskBehind_L6 σ (nI k) (nI (su (fun c => if 0 < (g c).getD 0 then h c else 0) i)) (nI i) = some (.inl (nI (su (fun c => if 0 < (g c).getD 0 then h c else 0) i + (if 0 < (g i).getD 0 then h i else 0)), nI (i + 1)))
      unfold zX1_riskBehind_L6
      have h9 := hg i
      rw [if_neg (show ¬ 32 ≤ nI i from nI_ge (b := 32) hi (by decide)), fr_al_nI hi (by decide), Option.bind_some, h6 i hi, fr_al_nI hi (by decide), Option.bind_some, h21 i hi, nI_1]
      cases e : g i with
      | none => rw [if_pos (show oI none ≤ 0 by decide), if_neg (by simp), show (0 : Int32) = nI 0 from rfl, nI_add]
      | some v =>
        rw [e] at h9
        have h9' : v ≤ 9 := h9
        by_cases v0 : 0 < v
        · rw [if_neg (show ¬ oI (some v) ≤ 0 from nI_nle v0 (by omega)), if_pos (show 0 < (some v).getD 0 from v0), nI_add]
        · rw [if_pos (show oI (some v) ≤ 0 from (nI_le0 (by omega)).mpr (by omega)), if_neg (show ¬ 0 < (some v).getD 0 from v0), show (0 : Int32) = nI 0 from rfl, nI_add]) (by
      show zX1_riskBehind_L6 σ (nI k) _ (nI 32) = _
      unfold zX1_riskBehind_L6
      rw [if_pos (by decide)]) 0 (by omega)
  have l2 := lp_seq (body := fun (b1 : Int32 × Int32) => zX1_riskBehind_L48 σ (nI k) b1.1 b1.2) (fun i => (nI (su (fun c => if 0 < (mo_s g hol sk i).1 c then h c else 0) 32), nI i)) k (nI (su (fun c => if 0 < (mo_s g hol sk k).1 c then h c else 0) 32)) (by omega) (fun i hi => by
      have r0 := rk_n (g := g) (hol := hol) (h := h) hsk i (by omega)
      have r1 := rk_n (g := g) (hol := hol) (h := h) hsk (i + 1) (by omega)
      have es : su (fun i => if mo_t g hol sk i = 0 then 0 else h (sk (2 * i + 1))) (i + 1) = su (fun i => if mo_t g hol sk i = 0 then 0 else h (sk (2 * i + 1))) i + (if mo_t g hol sk i = 0 then 0 else h (sk (2 * i + 1))) := rfl
      rw [es] at r1
      show zX1_riskBehind_L48 σ (nI k) (nI (su (fun c => if 0 < (mo_s g hol sk i).1 c then h c else 0) 32)) (nI i) = some (.inl (nI (su (fun c => if 0 < (mo_s g hol sk (i + 1)).1 c then h c else 0) 32), nI (i + 1)))
      generalize su (fun c => if 0 < (mo_s g hol sk i).1 c then h c else 0) 32 = A at *
      generalize su (fun c => if 0 < (mo_s g hol sk (i + 1)).1 c then h c else 0) 32 = B at *
      unfold zX1_riskBehind_L48 zX9_isCell
      have h9 := mo_t9 (hol := hol) (sk := sk) (i := i) hg
      have hc := (hsk i (by omega)).2
      rw [if_neg (nI_ge hi (by omega)), if_neg (show ¬ 40 ≤ nI i from nI_ge (b := 40) (by omega) (by decide)), fr_al_nI (show i < 40 by omega) (by decide), Option.bind_some, fr_al_nI (show i < 40 by omega) (by decide), Option.bind_some, h18 i hi, h16 i (by omega), show zX9_within (nI (sk (2 * i + 1))) 0 31 = 1 from wi_nI (m := 31) (by omega) (by decide), if10, fr_al_nI hc (by decide), Option.bind_some, h21 _ hc, nI_1]
      by_cases e : mo_t g hol sk i = 0
      · rw [if_pos e] at r1
        rw [if_pos (by rw [nI_le0 (by omega)]; exact e), show A = B by omega, show (0 : Int32) = nI 0 from rfl, pk_sub (by omega), Nat.sub_zero]
      · rw [if_neg e] at r1
        rw [if_neg (nI_nle (by omega) (by omega)), pk_sub (by omega), show A - h (sk (2 * i + 1)) = B by omega]) (by
      show zX1_riskBehind_L48 σ (nI k) _ (nI k) = _
      unfold zX1_riskBehind_L48
      rw [if_pos (nI_le (Nat.le_refl _) (by omega))]) 0 (by omega)
  rw [show fr_loop (fun (b1 : Int32 × Int32) => zX1_riskBehind_L6 σ (nI k) b1.1 b1.2) fr_fu (0, 0) = some (nI (su (fun c => if 0 < (g c).getD 0 then h c else 0) 32)) from l1, Option.bind_some]
  rw [show fr_loop (fun (b1 : Int32 × Int32) => zX1_riskBehind_L48 σ (nI k) b1.1 b1.2) fr_fu (nI (su (fun c => if 0 < (g c).getD 0 then h c else 0) 32), 0) = some (nI (su (fun c => if 0 < (mo_s g hol sk k).1 c then h c else 0) 32)) from l2, Option.bind_some]
