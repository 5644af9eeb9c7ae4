/-! the road, read by the reference; fault -/
/-- the reference's numbers that no question changes -/
def msc (σ σ' : fr_St) : Prop := (∀ q ∈ [1, 2, 3, 5, 6, 11, 12, 13, 14, 18], σ' q = σ q) ∧ σ' 0 19 = σ 0 19 ∧ σ' 0 27 = σ 0 27 ∧ σ' 0 4 = σ 0 4
theorem msc_rf {a : fr_St} : msc a a := ⟨fun _ _ => rfl, rfl, rfl, rfl⟩
theorem msc_tr {a b c : fr_St} (h : msc a b) (k : msc b c) : msc a c := ⟨fun q hq => (k.1 q hq).trans (h.1 q hq), k.2.1.trans h.2.1, k.2.2.1.trans h.2.2.1, k.2.2.2.trans h.2.2.2⟩
theorem mb_sc {ν : Nat → Nat → Nat} {σ σ' : fr_St} (h : mb ν σ) (e : msc σ σ') : mb ν σ' :=
  mb_rows h (fun q hq => e.1 q (by simp at hq ⊢; omega)) e.2.1 e.2.2.1
theorem shr_sc {σx σ σ' : fr_St} (h : shr σx σ) (e : msc σ σ') : shr σx σ' := shr_m h (fun q hq => e.1 q (by simp at hq ⊢; omega))
theorem Rl_sc {σx σm σm' : fr_St} (h : Rl σx σm) (e : msc σm σm') : Rl σx σm' := by
  obtain ⟨ν, hn, hx, hm, hs, hd, ho, hf⟩ := h
  exact ⟨ν, hn, hx, mb_sc hm e, shr_sc hs e, hd, ho, by rw [e.2.2.2]; exact hf⟩
theorem mfr_sc {σ σ' : fr_St} (h : mfr σ σ') : msc σ σ' :=
  ⟨fun q hq => h.1 q (by rintro rfl; revert hq; decide) (by rintro rfl; revert hq; decide) (by rintro rfl; revert hq; decide), h.2 19 (by decide) (by decide) (by decide) (by decide), h.2 27 (by decide) (by decide) (by decide) (by decide), h.2 4 (by decide) (by decide) (by decide) (by decide)⟩
theorem msc_row {σ σ' : fr_St} (h : msc σ σ') {q : Nat} (hq : q = 7 ∨ q = 8 ∨ q = 9 ∨ q = 10 ∨ q = 15 ∨ q = 16 ∨ q = 17 ∨ q = 19 ∨ q = 20) {f : Nat → Int32} : msc σ (fr_row σ' q f) :=
  ⟨fun a ha => by rw [fr_row_ne (by rintro rfl; simp at ha; omega)]; exact h.1 a ha, by rw [fr_row_ne (by omega)]; exact h.2.1, by rw [fr_row_ne (by omega)]; exact h.2.2.1, by rw [fr_row_ne (by omega)]; exact h.2.2.2⟩
theorem msc_put {σ σ' : fr_St} (h : msc σ σ') {q j : Nat} (hq : q = 7 ∨ q = 8 ∨ q = 9 ∨ q = 10 ∨ q = 15 ∨ q = 16 ∨ q = 17 ∨ q = 19 ∨ q = 20) {v : Int32} : msc σ (fr_put σ' q j v) := msc_row h hq
theorem msc_f {σ σ' : fr_St} (h : msc σ σ') {j : Nat} (hj : j ≠ 19 ∧ j ≠ 27 ∧ j ≠ 4) {v : Int32} : msc σ (fr_put σ' 0 j v) :=
  ⟨fun a ha => by rw [fr_put_at, if_neg (by rintro rfl; revert ha; decide)]; exact h.1 a ha, by rw [fr_put_at, if_pos rfl, upd_at, if_neg (by omega)]; exact h.2.1, by rw [fr_put_at, if_pos rfl, upd_at, if_neg (by omega)]; exact h.2.2.1, by rw [fr_put_at, if_pos rfl, upd_at, if_neg (by omega)]; exact h.2.2.2⟩
/-- fields and rows that no reading of the road changes -/
def mfd (σ σ' : fr_St) : Prop := (∀ q, q ≠ 0 → q ≠ 10 → σ' q = σ q) ∧ ∀ j, j ≠ 14 → σ' 0 j = σ 0 j
theorem mfd_sc {σ σ' : fr_St} (h : mfd σ σ') : msc σ σ' :=
  ⟨fun q hq => h.1 q (by rintro rfl; revert hq; decide) (by rintro rfl; revert hq; decide), h.2 19 (by decide), h.2 27 (by decide), h.2 4 (by decide)⟩
theorem kd_eq' (x : Int32) : zX10_kindOf x = zX3_kindOf x := rfl
theorem mr_road {T : Nat → Nat} {n : Nat} {σ : fr_St} (hn : n ≤ 40) (hT : ∀ j, j < 40 → T j ≤ 255) (hsz : σ 6 1 = nI n) (hb : ∀ j, j < 40 → σ 5 (40 + j) = nI (T j)) :
    ∃ σ', zX10_readsRoad σ = some (oI (rd_lp T n 0), σ') ∧ σ' 0 14 = nI (rd_n T n) ∧ (∀ i, i < rd_n T n → ∃ k, k < 5 ∧ rd_k (T i) = some k ∧ σ' 10 i = nI k) ∧ mfd σ σ' := by
  unfold zX10_readsRoad
  obtain ⟨z, hz, σ', hf, h⟩ := lp_fu (body := fun (b1 : Int32 × fr_St) => zX10_readsRoad_L7 b1.1 b1.2)
    (fun i b => ∃ σ', mfd σ σ' ∧ b = (nI i, σ') ∧ rd_lp T (n - i) i = rd_lp T n 0 ∧ σ' 0 14 = nI i ∧ ∀ j, j < i → ∃ k, k < 5 ∧ rd_k (T j) = some k ∧ σ' 10 j = nI k)
    (fun z => ∃ σ', mfd σ σ' ∧ ((∃ i, z = .inl (nI i, σ') ∧ rd_lp T n 0 = some i ∧ σ' 0 14 = 0) ∨ (z = .inr σ' ∧ rd_lp T n 0 = none ∧ σ' 0 14 = nI n ∧ ∀ j, j < n → ∃ k, k < 5 ∧ rd_k (T j) = some k ∧ σ' 10 j = nI k))) n (by omega)
    (fun i b hi hI => by
      obtain ⟨σ', hf, rfl, hlp, s14, hk⟩ := hI
      obtain ⟨k, hk1⟩ : ∃ k, n - i = k + 1 := ⟨n - i - 1, by omega⟩
      have hk2 : n - (i + 1) = k := by omega
      rw [hk1] at hlp
      rw [hk2]
      simp only [rd_lp] at hlp
      show (∃ b', zX10_readsRoad_L7 (nI i) σ' = _ ∧ _) ∨ ∃ c', zX10_readsRoad_L7 (nI i) σ' = _ ∧ _
      unfold zX10_readsRoad_L7
      rw [al21, Option.bind_some, hf.1 6 (by decide) (by decide), hsz, if_neg (nI_ge hi (by omega)), show (40 : Int32) + nI i = nI (40 + i) from nI_add 40 i, fr_al_nI (show 40 + i < 80 by omega) (by decide), Option.bind_some, hf.1 5 (by decide) (by decide), hb i (by omega), kd_eq', kd_eq (hT i (by omega))]
      cases hr : rd_k (T i) with
      | none =>
        rw [hr] at hlp
        right
        rw [if_pos (show oI none = -1 from rfl)]
        refine ⟨_, rfl, _, ⟨fun q a b => ?_, fun j a => ?_⟩, Or.inl ⟨i, rfl, hlp.symm, by simp [fr_put_at, upd_at]⟩⟩
        · rw [fr_put_at, if_neg a]; exact hf.1 q a b
        · rw [fr_put_at, if_pos rfl, upd_at, if_neg a]; exact hf.2 j a
      | some v =>
        have hv := rd_k5 hr
        rw [hr] at hlp
        left
        rw [if_neg (show ¬ oI (some v) = -1 from nI_m1 (by omega)), s14, fr_as_nI (show i < 40 by omega) (by decide), Option.bind_some, nI_1]
        refine ⟨_, rfl, fr_put (fr_put σ' 10 i (nI v)) 0 14 (nI (i + 1)), ⟨fun q a b => ?_, fun j a => ?_⟩, ?_, hlp, ?_, fun j hj => ?_⟩
        · rw [fr_put_at, if_neg a, fr_put_at, if_neg b]; exact hf.1 q a b
        · rw [fr_put_at, if_pos rfl, upd_at, if_neg a]; exact hf.2 j a
        · rw [show (fr_put σ' 10 i (oI (some v))) 0 14 + 1 = nI (i + 1) from (congrArg (· + 1) s14).trans (nI_1 i)]; rfl
        · simp [fr_put_at, upd_at]
        · by_cases e : j = i
          · subst e
            exact ⟨v, hv, hr, by simp [fr_put_at, upd_at]⟩
          · obtain ⟨k', a, b, c⟩ := hk j (by omega)
            exact ⟨k', a, b, by simpa [fr_put_at, upd_at, e] using c⟩)
    (fun b hI => by
      obtain ⟨σ', hf, rfl, hlp, s14, hk⟩ := hI
      rw [Nat.sub_self] at hlp
      show ∃ c', zX10_readsRoad_L7 (nI n) σ' = _ ∧ _
      unfold zX10_readsRoad_L7
      rw [al21, Option.bind_some, hf.1 6 (by decide) (by decide), hsz, if_pos (nI_le (Nat.le_refl _) (by omega))]
      exact ⟨_, rfl, σ', hf, Or.inr ⟨rfl, hlp.symm, s14, hk⟩⟩)
    0 (0, fr_put σ 0 14 0) (by omega) ⟨_, ⟨fun q a b => by rw [fr_put_at, if_neg a], fun j a => by rw [fr_put_at, if_pos rfl, upd_at, if_neg a]⟩, rfl, rfl, by simp [fr_put_at, upd_at, nI_0], fun j hj => by omega⟩
  rw [hz, Option.bind_some]
  rcases h with ⟨i, rfl, h1, h2⟩ | ⟨rfl, h1, h2, h3⟩
  · have e : rd_n T n = 0 := by unfold rd_n; rw [h1]
    rw [h1, e]
    exact ⟨σ', rfl, h2.trans nI_0.symm, fun i hi => by omega, hf⟩
  · have e : rd_n T n = n := by unfold rd_n; rw [h1]
    rw [h1, e]
    exact ⟨σ', rfl, h2, h3, hf⟩
theorem ok_fault : sm_fault Rl := by
  rintro σx σm a1 ⟨ν, hn, hx, hm, hs, hd, ho, hf⟩
  have hR : Rl σx σm := ⟨ν, hn, hx, hm, hs, hd, ho, hf⟩
  unfold zX9_fault zX10_fault zX9_isText
  simp only [in_isTwo]
  rcases wi_01 a1 with h1 | ⟨rfl, h1⟩ | ⟨rfl, h1⟩
  · exact ⟨-2, σm, by rw [if_pos h1], by rw [if_pos h1], hR⟩
  · simp only [h1, if10]
    obtain ⟨σ', e, _, _, _, hf'⟩ := mp_pane (T := ν 5) (σ := σm) hn.1.1 (fun j hj => hn.2.1 j (by omega)) hm.1.1 (fun j hj => hm.2.1 j (by omega))
    refine ⟨_, σ', rfl, ?_, Rl_sc hR (mfr_sc hf')⟩
    simp only [if_true, e, Option.bind_some, hd.1.1]
  · simp only [h1, if10]
    obtain ⟨σ', e, _, _, hf'⟩ := mr_road (T := fun i => ν 5 (40 + i)) (σ := σm) hn.1.2 (fun j hj => hn.2.1 (40 + j) (by omega)) hm.1.2 (fun j hj => hm.2.1 (40 + j) (by omega))
    refine ⟨_, σ', rfl, ?_, Rl_sc hR (mfd_sc hf')⟩
    simp only [e, Option.bind_some, hd.2.1.1]
