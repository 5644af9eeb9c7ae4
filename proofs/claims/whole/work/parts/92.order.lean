/-! the morning: the class's order -/
theorem q_tr {h th : Nat → Nat} {c x y : Nat} (hx : 0 < th x) (hy : 0 < th y) (h1 : mo_q h th c x = true) (h2 : mo_q h th y x = false) : mo_q h th c y = true := by
  unfold mo_q at *
  have a := of_decide_eq_true h1
  have b := of_decide_eq_false h2
  refine decide_eq_true ?_
  have b' : h y * th x ≤ h x * th y := by omega
  have s1 : h y * th x * th c ≤ h x * th y * th c := Nat.mul_le_mul_right _ b'
  have s2 : h x * th c * th y < h c * th x * th y := Nat.mul_lt_mul_of_pos_right a hy
  have e1 : h y * th c * th x = h y * th x * th c := Nat.mul_right_comm _ _ _
  have e2 : h x * th y * th c = h x * th c * th y := Nat.mul_right_comm _ _ _
  have e3 : h c * th x * th y = h c * th y * th x := Nat.mul_right_comm _ _ _
  exact Nat.lt_of_mul_lt_mul_right (a := th x) (by omega)
theorem q_as {h th : Nat → Nat} {c x : Nat} (h1 : mo_q h th c x = true) : mo_q h th x c = false := by
  unfold mo_q at *
  have a := of_decide_eq_true h1
  exact decide_eq_false (by omega)
theorem mo_i_len {h th : Nat → Nat} {c : Nat} : ∀ L : List Nat, (mo_i h th c L).length = L.length + 1
  | [] => rfl
  | x :: r => by
    unfold mo_i
    split
    · rfl
    · show (mo_i h th c r).length + 1 = _
      rw [mo_i_len r]; rfl
theorem mo_i_at {h th : Nat → Nat} {c : Nat} : ∀ (L : List Nat) (p : Nat), p ≤ L.length → (∀ j, j < p → mo_q h th c (L.getD j 0) = false) → (p < L.length → mo_q h th c (L.getD p 0) = true) → ∀ j, (mo_i h th c L).getD j 0 = if j < p then L.getD j 0 else if j = p then c else L.getD (j - 1) 0
  | [], p, hp, _, _, j => by
    have : p = 0 := Nat.le_zero.mp hp
    subst this
    cases j with
    | zero => rfl
    | succ j => simp [mo_i]
  | x :: r, 0, hp, h1, h2, j => by
    have : mo_q h th c x = true := h2 (Nat.succ_pos _)
    unfold mo_i
    rw [if_pos this]
    cases j with
    | zero => rfl
    | succ j => simp
  | x :: r, p + 1, hp, h1, h2, j => by
    have : mo_q h th c x = false := h1 0 (Nat.succ_pos _)
    unfold mo_i
    rw [if_neg (by rw [this]; decide)]
    cases j with
    | zero => simp
    | succ j =>
      show (mo_i h th c r).getD j 0 = _
      rw [mo_i_at r p (Nat.le_of_succ_le_succ hp) (fun j hj => h1 (j + 1) (by omega)) (fun hl => h2 (Nat.succ_lt_succ hl)) j]
      by_cases e1 : j < p
      · rw [if_pos e1, if_pos (show j + 1 < p + 1 by omega)]; rfl
      · rw [if_neg e1, if_neg (show ¬ j + 1 < p + 1 by omega)]
        by_cases e2 : j = p
        · rw [if_pos e2, if_pos (show j + 1 = p + 1 by omega)]
        · rw [if_neg e2, if_neg (show ¬ j + 1 = p + 1 by omega)]
          obtain ⟨k, rfl⟩ : ∃ k, j = k + 1 := ⟨j - 1, by omega⟩
          rfl
def srt (h th : Nat → Nat) (L : List Nat) : Prop := ∀ i j, i < j → j < L.length → mo_q h th (L.getD j 0) (L.getD i 0) = false
/-- what holds of the order behind n cells -/
def mo_ok (h th : Nat → Nat) (n : Nat) (L : List Nat) : Prop := L.length ≤ n ∧ srt h th L ∧ ∀ j, j < L.length → L.getD j 0 < n ∧ 0 < th (L.getD j 0) ∧ 0 < h (L.getD j 0)
theorem mo_cut {h th : Nat → Nat} {c : Nat} {L : List Nat} {n : Nat} (hL : mo_ok h th n L) {p : Nat} (hp : p ≤ L.length) (hq : 0 < p → mo_q h th c (L.getD (p - 1) 0) = false) : ∀ j, j < p → mo_q h th c (L.getD j 0) = false := by
  intro j hj
  rcases Nat.lt_or_ge j (p - 1) with h1 | h1
  · cases e : mo_q h th c (L.getD j 0) with
    | false => rfl
    | true =>
      have := q_tr (hL.2.2 j (by omega)).2.1 (hL.2.2 (p - 1) (by omega)).2.1 e (hL.2.1 j (p - 1) h1 (by omega))
      rw [hq (by omega)] at this
      simp at this
  · have : j = p - 1 := by omega
    rw [this]; exact hq (by omega)
theorem mo_ins {h th : Nat → Nat} {L : List Nat} {n : Nat} (hL : mo_ok h th n L) (hc : 0 < th n ∧ 0 < h n) {p : Nat} (hp : p ≤ L.length) (h1 : ∀ j, j < p → mo_q h th n (L.getD j 0) = false) (h2 : ∀ j, p ≤ j → j < L.length → mo_q h th n (L.getD j 0) = true) : mo_ok h th (n + 1) (mo_i h th n L) := by
  have at_ := mo_i_at (c := n) L p hp h1 (fun hl => h2 p (Nat.le_refl _) hl)
  refine ⟨by rw [mo_i_len]; have := hL.1; omega, fun i j hij hj => ?_, fun j hj => ?_⟩
  · rw [mo_i_len] at hj
    rw [at_ i, at_ j]
    by_cases a : j < p
    · rw [if_pos a, if_pos (by omega)]; exact hL.2.1 i j hij (by omega)
    · rw [if_neg a]
      by_cases b : j = p
      · rw [if_pos b, if_pos (by omega)]; exact h1 i (by omega)
      · rw [if_neg b]
        by_cases d : i < p
        · rw [if_pos d]; exact hL.2.1 i (j - 1) (by omega) (by omega)
        · rw [if_neg d]
          by_cases e : i = p
          · rw [if_pos e]; exact q_as (h2 (j - 1) (by omega) (by omega))
          · rw [if_neg e]; exact hL.2.1 (i - 1) (j - 1) (by omega) (by omega)
  · rw [mo_i_len] at hj
    rw [at_ j]
    by_cases a : j < p
    · rw [if_pos a]; have := hL.2.2 j (by omega); exact ⟨by omega, this.2⟩
    · rw [if_neg a]
      by_cases b : j = p
      · rw [if_pos b]; exact ⟨by omega, hc⟩
      · rw [if_neg b]; have := hL.2.2 (j - 1) (by omega); exact ⟨by omega, this.2⟩
theorem mo_p {h th : Nat → Nat} {L : List Nat} {n : Nat} (hL : mo_ok h th n L) (c : Nat) : ∃ p, p ≤ L.length ∧ (∀ j, j < p → mo_q h th c (L.getD j 0) = false) ∧ ∀ j, p ≤ j → j < L.length → mo_q h th c (L.getD j 0) = true := by
  have key : ∀ d, d ≤ L.length → ∃ p, L.length - d ≤ p ∧ p ≤ L.length ∧ (L.length - d < p → mo_q h th c (L.getD (p - 1) 0) = false) ∧ ∀ j, p ≤ j → j < L.length → mo_q h th c (L.getD j 0) = true := by
    intro d
    induction d with
    | zero => intro _; exact ⟨L.length, by omega, by omega, fun h => by omega, fun j a b => by omega⟩
    | succ d ih =>
      intro hd
      obtain ⟨p, a, b, e, f⟩ := ih (by omega)
      by_cases hp : L.length - d < p
      · exact ⟨p, by omega, b, fun _ => e hp, f⟩
      · cases hq : mo_q h th c (L.getD (p - 1) 0) with
        | false => exact ⟨p, by omega, b, fun _ => hq, f⟩
        | true => exact ⟨p - 1, by omega, by omega, fun h => by omega, fun j x y => by
            by_cases ej : j = p - 1
            · rw [ej]; exact hq
            · exact f j (by omega) y⟩
  obtain ⟨p, a, b, e, f⟩ := key L.length (Nat.le_refl _)
  exact ⟨p, b, mo_cut hL b (fun h => e (by omega)), f⟩
theorem mo_o_ok {h th : Nat → Nat} : ∀ n, mo_ok h th n (mo_o h th n)
  | 0 => ⟨Nat.le_refl _, fun i j _ hj => absurd hj (Nat.not_lt_zero _), fun j hj => absurd hj (Nat.not_lt_zero _)⟩
  | n + 1 => by
    have ih := mo_o_ok (h := h) (th := th) n
    unfold mo_o
    split
    · rename_i hc
      obtain ⟨p, a, b, e⟩ := mo_p ih n
      exact mo_ins ih hc a b e
    · exact ⟨by have := ih.1; omega, ih.2.1, fun j hj => ⟨by have := (ih.2.2 j hj).1; omega, (ih.2.2 j hj).2⟩⟩
theorem xo_q {g : Nat → Option Nat} {h th : Nat → Nat} {σ : fr_St} {a b : Nat} (ha : a < 32) (hb : b < 32) (h9 : ∀ c, th c ≤ 9) (hh : ∀ c, c < 32 → h c ≤ 2000) (h0 : ∀ c, g c = none → th c = 0) (h21 : ∀ c, c < 32 → σ 21 c = nI (h c)) (h19 : ∀ c, c < 32 → σ 19 c = oT g th c) (ta : 0 < th a) (tb : 0 < th b) : zX1_isQuicker σ (nI a) (nI b) = some (if mo_q h th a b then 1 else 0) := by
  unfold zX1_isQuicker
  rw [fr_al_nI ha (by decide), Option.bind_some, fr_al_nI hb (by decide), Option.bind_some, fr_al_nI hb (by decide), Option.bind_some, fr_al_nI ha (by decide), Option.bind_some, h21 a ha, h21 b hb, h19 a ha, h19 b hb, oT_nI (h0 a) ta, oT_nI (h0 b) tb, pk_mul, pk_mul]
  have m1 : h a * th b ≤ 2000 * 9 := Nat.mul_le_mul (hh a ha) (h9 b)
  have m2 : h b * th a ≤ 2000 * 9 := Nat.mul_le_mul (hh b hb) (h9 a)
  unfold mo_q
  by_cases e : h b * th a < h a * th b
  · rw [if_neg (nI_ge e (by omega)), decide_eq_true e]; rfl
  · rw [if_pos (nI_le (by omega) (by omega)), decide_eq_false e]; rfl
theorem nI_dec (a : Nat) : nI (a + 1) + (-1) = nI a := by
  rw [← nI_pred a, Int32.sub_eq_add_neg]
theorem xo_in {g : Nat → Option Nat} {h th : Nat → Nat} {σ : fr_St} {c : Nat} {L : List Nat} (hc : c < 32) (h9 : ∀ c, th c ≤ 9) (hh : ∀ c, c < 32 → h c ≤ 2000) (h0 : ∀ c, g c = none → th c = 0) (h21 : ∀ c, c < 32 → σ 21 c = nI (h c)) (h19 : ∀ c, c < 32 → σ 19 c = oT g th c) (tc : 0 < th c) (hL : mo_ok h th c L) (hr : ∀ j, j < L.length → σ 22 j = nI (L.getD j 0)) :
    ∃ p σ', fr_loop (fun (b3 : Int32 × fr_St) => zX1_order_L36 (nI c) b3.1 b3.2) fr_fu (nI L.length, σ) = some (nI p, σ') ∧ p ≤ L.length ∧ (∀ q, q ≠ 22 → σ' q = σ q) ∧ (∀ j, j < p → σ' 22 j = nI (L.getD j 0)) ∧ (∀ j, p ≤ j → j < L.length → σ' 22 (j + 1) = nI (L.getD j 0) ∧ mo_q h th c (L.getD j 0) = true) ∧ (0 < p → mo_q h th c (L.getD (p - 1) 0) = false) := by
  have hlen := hL.1
  obtain ⟨z, hz, p, σ', rfl, hQ⟩ := lp_fu (body := fun (b3 : Int32 × fr_St) => zX1_order_L36 (nI c) b3.1 b3.2)
    (fun k b => ∃ σ', b = (nI (L.length - k), σ') ∧ (∀ q, q ≠ 22 → σ' q = σ q) ∧ (∀ j, j < L.length - k → σ' 22 j = nI (L.getD j 0)) ∧ (∀ j, L.length - k ≤ j → j < L.length → σ' 22 (j + 1) = nI (L.getD j 0) ∧ mo_q h th c (L.getD j 0) = true))
    (fun z => ∃ p σ', z = (nI p, σ') ∧ p ≤ L.length ∧ (∀ q, q ≠ 22 → σ' q = σ q) ∧ (∀ j, j < p → σ' 22 j = nI (L.getD j 0)) ∧ (∀ j, p ≤ j → j < L.length → σ' 22 (j + 1) = nI (L.getD j 0) ∧ mo_q h th c (L.getD j 0) = true) ∧ (0 < p → mo_q h th c (L.getD (p - 1) 0) = false)) L.length (by omega)
    (fun k b hk hI => by
      obtain ⟨σ', rfl, hf, h1, h2⟩ := hI
      obtain ⟨v, hv⟩ : ∃ v, L.length - k = v + 1 := ⟨L.length - k - 1, by omega⟩
      have hv' : L.length - (k + 1) = v := by omega
      rw [hv] at h1 h2
      rw [hv, hv']
      show (∃ b', zX1_order_L36 (nI c) (nI (v + 1)) σ' = _ ∧ _) ∨ ∃ c', zX1_order_L36 (nI c) (nI (v + 1)) σ' = _ ∧ _
      unfold zX1_order_L36
      have hLv := hL.2.2 v (by omega)
      rw [if_neg (nI_nle (by omega) (by omega)), nI_pred, fr_al_nI (show v < 32 by omega) (by decide), Option.bind_some, h1 v (by omega), xo_q hc (show L.getD v 0 < 32 by omega) h9 hh h0 (fun c hc => by rw [hf 21 (by decide)]; exact h21 c hc) (fun c hc => by rw [hf 19 (by decide)]; exact h19 c hc) tc hLv.2.1, Option.bind_some]
      cases hq : mo_q h th c (L.getD v 0) with
      | false =>
        right
        rw [if_neg (show ¬ false = true by decide), if00]
        exact ⟨_, rfl, v + 1, σ', rfl, by omega, hf, h1, h2, fun _ => hq⟩
      | true =>
        left
        rw [if_pos rfl, if10, Option.bind_some, fr_as_nI (show v + 1 < 32 by omega) (by decide), Option.bind_some, nI_dec]
        refine ⟨_, rfl, _, rfl, fun q a => by rw [fr_put_at, if_neg a]; exact hf q a, fun j hj => ?_, fun j a b => ?_⟩
        · rw [fr_put_at, if_pos rfl, upd_at, if_neg (by omega)]; exact h1 j (by omega)
        · by_cases e : j = v
          · rw [e, fr_put_at, if_pos rfl, upd_at, if_pos rfl]; exact ⟨rfl, hq⟩
          · rw [fr_put_at, if_pos rfl, upd_at, if_neg (by omega)]; exact h2 j (by omega) b)
    (fun b hI => by
      obtain ⟨σ', rfl, hf, h1, h2⟩ := hI
      rw [Nat.sub_self] at h1 h2 ⊢
      refine ⟨(nI 0, σ'), ?_, 0, σ', rfl, by omega, hf, h1, h2, fun h => by omega⟩
      show zX1_order_L36 (nI c) (nI 0) σ' = _
      unfold zX1_order_L36
      rw [if_pos (by decide)])
    0 (nI L.length, σ) (by omega) ⟨σ, rfl, fun _ _ => rfl, hr, fun j a b => by omega⟩
  exact ⟨p, σ', hz, hQ⟩
def fxo (σ σ' : fr_St) : Prop := ∀ q, q ≠ 17 → q ≠ 22 → σ' q = σ q
theorem xo_order {g : Nat → Option Nat} {h th : Nat → Nat} {σ : fr_St} (h9 : ∀ c, th c ≤ 9) (hh : ∀ c, c < 32 → h c ≤ 2000) (h0 : ∀ c, g c = none → th c = 0) (h21 : ∀ c, c < 32 → σ 21 c = nI (h c)) (h19 : ∀ c, c < 32 → σ 19 c = oT g th c) :
    ∃ σ', zX1_order σ = some σ' ∧ σ' 17 6 = nI (mo_o h th 32).length ∧ (∀ i, i < (mo_o h th 32).length → σ' 22 i = nI ((mo_o h th 32).getD i 0)) ∧ σ' 17 7 = σ 17 7 ∧ fxo σ σ' := by
  unfold zX1_order
  obtain ⟨z, hz, hQ⟩ := lp_fu (body := fun (b1 : Int32 × fr_St) => zX1_order_L7 b1.1 b1.2)
    (fun i b => ∃ σ', b = (nI i, σ') ∧ σ' 17 6 = nI (mo_o h th i).length ∧ (∀ j, j < (mo_o h th i).length → σ' 22 j = nI ((mo_o h th i).getD j 0)) ∧ σ' 17 7 = σ 17 7 ∧ fxo σ σ')
    (fun σ' => σ' 17 6 = nI (mo_o h th 32).length ∧ (∀ i, i < (mo_o h th 32).length → σ' 22 i = nI ((mo_o h th 32).getD i 0)) ∧ σ' 17 7 = σ 17 7 ∧ fxo σ σ') 32 (by omega)
    (fun i b hi hI => by
      obtain ⟨σ', rfl, h6, h22, h7, hf⟩ := hI
      left
      show ∃ b', zX1_order_L7 (nI i) σ' = _ ∧ _
      unfold zX1_order_L7
      have k19 : ∀ c, c < 32 → σ' 19 c = oT g th c := fun c hc => by rw [hf 19 (by decide) (by decide)]; exact h19 c hc
      have k21 : ∀ c, c < 32 → σ' 21 c = nI (h c) := fun c hc => by rw [hf 21 (by decide) (by decide)]; exact h21 c hc
      have hok := mo_o_ok (h := h) (th := th) i
      have eo : mo_o h th (i + 1) = if 0 < th i ∧ 0 < h i then mo_i h th i (mo_o h th i) else mo_o h th i := rfl
      rw [eo, if_neg (show ¬ 32 ≤ nI i from nI_ge (b := 32) hi (by decide)), fr_al_nI hi (by decide), Option.bind_some, fr_al_nI hi (by decide), Option.bind_some, k19 i hi, k21 i hi, h6]
      generalize mo_o h th i = L at *
      have hlen := hok.1
      by_cases t0 : 0 < th i
      · rw [if_neg (fun hle => (oT_le (h0 i) (h9 i)).mp hle t0)]
        by_cases g0 : 0 < h i
        · obtain ⟨p, σ2, e2, hp, f2, a1, a2, a3⟩ := xo_in (σ := σ') hi h9 hh h0 k21 k19 t0 hok h22
          rw [if_neg (nI_nle g0 (by have := hh i hi; omega)), e2, Option.bind_some, if_pos ⟨t0, g0⟩, mo_i_len]
          dsimp only
          rw [fr_as_nI (show p < 32 by omega) (by decide), Option.bind_some]
          have at_ := mo_i_at (c := i) L p hp (mo_cut hok hp a3) (fun hl => (a2 p (Nat.le_refl _) hl).2)
          refine ⟨_, rfl, fr_put (fr_put σ2 22 p (nI i)) 17 6 (nI (L.length + 1)), ?_, ?_, fun j hj => ?_, ?_, fun q a b => ?_⟩
          · rw [nI_1, show (fr_put σ2 22 p (nI i)) 17 6 = nI L.length from (congrFun (f2 17 (by decide)) 6).trans h6, nI_1]
          · simp [fr_put_at, upd_at]
          · rw [at_ j]
            show (fr_put σ2 22 p (nI i)) 22 j = _
            rw [fr_put_at, if_pos rfl, upd_at]
            by_cases b1 : j = p
            · rw [if_pos b1, if_neg (by omega), if_pos b1]
            · rw [if_neg b1]
              by_cases b2 : j < p
              · rw [if_pos b2]; exact a1 j b2
              · rw [if_neg b2, if_neg b1]
                obtain ⟨k, rfl⟩ : ∃ k, j = k + 1 := ⟨j - 1, by omega⟩
                exact (a2 k (by omega) (by omega)).1
          · show (fr_put σ2 22 p (nI i)) 17 7 = _
            rw [fr_put_at, if_neg (by decide), f2 17 (by decide)]; exact h7
          · rw [fr_put_at, if_neg a, fr_put_at, if_neg b, f2 q b]; exact hf q a b
        · rw [if_pos (by rw [nI_le0 (by have := hh i hi; omega)]; omega), if_neg (by omega)]
          exact ⟨_, rfl, σ', by rw [nI_1], h6, h22, h7, hf⟩
      · rw [if_pos ((oT_le (h0 i) (h9 i)).mpr t0), if_neg (by omega)]
        exact ⟨_, rfl, σ', by rw [nI_1], h6, h22, h7, hf⟩)
    (fun b hI => by
      obtain ⟨σ', rfl, hq⟩ := hI
      refine ⟨σ', ?_, hq⟩
      show zX1_order_L7 (nI 32) σ' = _
      unfold zX1_order_L7
      rw [if_pos (by decide)])
    0 (0, fr_put σ 17 6 0) (by omega) ⟨_, rfl, by simp [fr_put_at, upd_at, mo_o, nI_0], fun j hj => absurd hj (Nat.not_lt_zero _), by simp [fr_put_at, upd_at], fun q a b => by rw [fr_put_at, if_neg a]⟩
  rw [hz, Option.bind_some]
  exact ⟨z, rfl, hQ⟩
