/-! warm: the class, level by level -/
theorem fr_dv_nI {a b : Nat} (ha : a < 2 ^ 31) (b0 : 0 < b) (hb : b < 2 ^ 31) : fr_dv (nI a) (nI b) = some (nI (a / b)) := by
  unfold fr_dv
  rw [if_neg (nI_ne0 b0 hb), pk_div ha b0 hb]
theorem lp_l {β γ : Type} {body : β → Option (β ⊕ γ)} {N : Nat} {b b' : β} (h : body b = some (.inl b')) : fr_loop body (N + 1) b = fr_loop body N b' := by
  show (body b).bind _ = _
  rw [h]; rfl
theorem lp_r {β γ : Type} {body : β → Option (β ⊕ γ)} {N : Nat} {b : β} {c : γ} (h : body b = some (.inr c)) : fr_loop body (N + 1) b = some c := by
  show (body b).bind _ = _
  rw [h]; rfl
def cn (th : Nat → Nat) (l : Nat) : Nat := su (fun c => if th c = l then 1 else 0) 32
theorem cn_le {th : Nat → Nat} {l : Nat} : cn th l ≤ 32 := by
  have := su_le (f := fun c => if th c = l then 1 else 0) (k := 1) (n := 32) (fun i _ => by split <;> omega)
  unfold cn
  omega
/-- k cells of thickness l are left at second t; nx: what follows behind them -/
def wk (m s l : Nat) (nx : Nat → Nat) : Nat → Nat → Nat
  | 0, t => nx t
  | k + 1, t => if l * m ≤ t then nx t else if l * m ≤ t + (l - t / m) * s then l * m else wk m s l nx k (t + (l - t / m) * s)
def wl (m s : Nat) (f : Nat → Nat) : Nat → Nat → Nat
  | 0, t => t
  | l + 1, t => wk m s (l + 1) (wl m s f l) (f (l + 1)) t
theorem w_lm {l m : Nat} (hl : l ≤ 9) (hm : m ≤ 60) : l * m ≤ 540 := Nat.mul_le_mul hl hm
theorem w_div {t l m : Nat} (m0 : 0 < m) (h : ¬ l * m ≤ t) : t / m < l := (Nat.div_lt_iff_lt_mul m0).mpr (by omega)
theorem w_e {t l m s : Nat} (hl : l ≤ 9) (hs : s ≤ 60) : (l - t / m) * s ≤ 540 := Nat.mul_le_mul (Nat.le_trans (Nat.sub_le _ _) hl) hs
theorem x_wk {σ : fr_St} {m s l : Nat} {f : Nat → Nat} (m0 : 0 < m) (hm : m ≤ 60) (hs : s ≤ 60) (l1 : 1 ≤ l) (hl : l ≤ 9) (hf : f l ≤ 32) (h23 : σ 23 l = nI (f l)) : ∀ (k i t : Nat), i + k = f l → t ≤ 540 → ∀ N, k < N →
    ∃ z, fr_loop (fun (b1 : Int32 × Int32) => zX1_clearWithBoth_L26 σ (nI m) (nI s) (nI l) (nI (l * m)) b1.1 b1.2) N (nI t, nI i) = some z ∧ ((∃ r, z = .inl (nI r) ∧ ∀ nx, wk m s l nx k t = r) ∨ (∃ t', t' ≤ 540 ∧ z = .inr (nI t') ∧ ∀ nx, wk m s l nx k t = nx t')) := by
  have hlm := w_lm hl hm
  intro k
  induction k with
  | zero =>
    intro i t hi ht N hN
    obtain ⟨N, rfl⟩ : ∃ M, N = M + 1 := ⟨N - 1, by omega⟩
    have hb : zX1_clearWithBoth_L26 σ (nI m) (nI s) (nI l) (nI (l * m)) (nI t) (nI i) = some (.inr (.inr (nI t))) := by
      unfold zX1_clearWithBoth_L26
      rw [fr_al_nI (show l < 10 by omega) (by decide), Option.bind_some, h23, if_pos (nI_le (by omega) (by omega))]
    exact ⟨.inr (nI t), lp_r hb, Or.inr ⟨t, ht, rfl, fun nx => rfl⟩⟩
  | succ k ih =>
    intro i t hi ht N hN
    obtain ⟨N, rfl⟩ : ∃ M, N = M + 1 := ⟨N - 1, by omega⟩
    have he := w_e (t := t) (m := m) hl hs
    by_cases h1 : l * m ≤ t
    · have hb : zX1_clearWithBoth_L26 σ (nI m) (nI s) (nI l) (nI (l * m)) (nI t) (nI i) = some (.inr (.inr (nI t))) := by
        unfold zX1_clearWithBoth_L26
        rw [fr_al_nI (show l < 10 by omega) (by decide), Option.bind_some, h23, if_neg (nI_ge (show i < f l by omega) (by omega)), if_pos (nI_le h1 (by omega))]
      exact ⟨_, lp_r hb, Or.inr ⟨t, ht, rfl, fun nx => by unfold wk; rw [if_pos h1]⟩⟩
    · have hd := w_div m0 h1
      by_cases h2 : l * m ≤ t + (l - t / m) * s
      · have hb : zX1_clearWithBoth_L26 σ (nI m) (nI s) (nI l) (nI (l * m)) (nI t) (nI i) = some (.inr (.inl (nI (l * m)))) := by
          unfold zX1_clearWithBoth_L26
          rw [fr_al_nI (show l < 10 by omega) (by decide), Option.bind_some, h23, if_neg (nI_ge (show i < f l by omega) (by omega)), if_neg (nI_ge (by omega) (by omega)), fr_dv_nI (by omega) m0 (by omega), Option.bind_some, pk_sub (by omega), pk_mul, nI_add, if_neg (nI_nlt h2 (by omega))]
        exact ⟨_, lp_r hb, Or.inl ⟨_, rfl, fun nx => by unfold wk; rw [if_neg h1, if_pos h2]⟩⟩
      · have hb : zX1_clearWithBoth_L26 σ (nI m) (nI s) (nI l) (nI (l * m)) (nI t) (nI i) = some (.inl (nI (t + (l - t / m) * s), nI (i + 1))) := by
          unfold zX1_clearWithBoth_L26
          rw [fr_al_nI (show l < 10 by omega) (by decide), Option.bind_some, h23, if_neg (nI_ge (show i < f l by omega) (by omega)), if_neg (nI_ge (by omega) (by omega)), fr_dv_nI (by omega) m0 (by omega), Option.bind_some, pk_sub (by omega), pk_mul, nI_add, if_pos (nI_lt (by omega) (by omega)), nI_1]
        obtain ⟨z, a, b⟩ := ih (i + 1) (t + (l - t / m) * s) (by omega) (by omega) N (by omega)
        refine ⟨z, (lp_l hb).trans a, ?_⟩
        rcases b with ⟨r, e, h⟩ | ⟨t', ht', e, h⟩
        · exact Or.inl ⟨r, e, fun nx => by unfold wk; rw [if_neg h1, if_neg h2]; exact h nx⟩
        · exact Or.inr ⟨t', ht', e, fun nx => by unfold wk; rw [if_neg h1, if_neg h2]; exact h nx⟩
theorem x_wl {σ : fr_St} {m s : Nat} {f : Nat → Nat} (m0 : 0 < m) (hm : m ≤ 60) (hs : s ≤ 60) (hf : ∀ l, f l ≤ 32) (h23 : ∀ l, 1 ≤ l → l < 10 → σ 23 l = nI (f l)) : ∀ (l t : Nat), l ≤ 9 → t ≤ 540 → ∀ N, l < N →
    ∃ z, fr_loop (fun (b1 : Int32 × Int32) => zX1_clearWithBoth_L12 σ (nI m) (nI s) b1.1 b1.2) N (nI t, nI l) = some z ∧ fr_ei (fun r => some r) (fun (c2 : Int32) => some c2) z = some (nI (wl m s f l t)) := by
  intro l
  induction l with
  | zero =>
    intro t _ ht N hN
    obtain ⟨N, rfl⟩ : ∃ M, N = M + 1 := ⟨N - 1, by omega⟩
    have hb : zX1_clearWithBoth_L12 σ (nI m) (nI s) (nI t) (nI 0) = some (.inr (.inr (nI t))) := by
      unfold zX1_clearWithBoth_L12
      rw [if_pos (by decide)]
    exact ⟨.inr (nI t), lp_r hb, rfl⟩
  | succ l ih =>
    intro t hl ht N hN
    obtain ⟨N, rfl⟩ : ∃ M, N = M + 1 := ⟨N - 1, by omega⟩
    obtain ⟨z, a, b⟩ := x_wk (σ := σ) (m := m) (s := s) (l := l + 1) (f := f) m0 hm hs (by omega) hl (hf _) (h23 _ (by omega) (by omega)) (f (l + 1)) 0 t (by omega) ht fr_fu (by have := fr_fu_ge; have := hf (l + 1); omega)
    have hb0 : zX1_clearWithBoth_L12 σ (nI m) (nI s) (nI t) (nI (l + 1)) = fr_ei (fun r => some (.inr (.inl r))) (fun (c2 : Int32) => some (.inl (c2, nI l))) z := by
      unfold zX1_clearWithBoth_L12
      rw [if_neg (nI_nle (by omega) (by omega)), pk_mul, show (nI t, (0 : Int32)) = (nI t, nI 0) from rfl, a, Option.bind_some, nI_dec]
    rcases b with ⟨r, rfl, h⟩ | ⟨t', ht', rfl, h⟩
    · refine ⟨.inl (nI r), lp_r hb0, ?_⟩
      show some (nI r) = some (nI (wk m s (l + 1) (wl m s f l) (f (l + 1)) t))
      rw [h]
    · obtain ⟨z, a2, b2⟩ := ih t' (by omega) ht' N (by omega)
      refine ⟨z, (lp_l hb0).trans a2, ?_⟩
      rw [b2]
      show _ = some (nI (wk m s (l + 1) (wl m s f l) (f (l + 1)) t))
      rw [h]
theorem x_both {σ : fr_St} {m s : Nat} {f : Nat → Nat} (m0 : 0 < m) (hm : m ≤ 60) (hs : s ≤ 60) (hf : ∀ l, f l ≤ 32) (h23 : ∀ l, 1 ≤ l → l < 10 → σ 23 l = nI (f l)) : zX1_clearWithBoth σ (nI m) (nI s) = some (nI (wl m s f 9 0)) := by
  unfold zX1_clearWithBoth
  obtain ⟨z, a, b⟩ := x_wl (σ := σ) m0 hm hs hf h23 9 0 (by omega) (by omega) fr_fu (by have := fr_fu_ge; omega)
  rw [if_pos (by rw [nI_lt0 (by omega)]; exact m0), show ((0 : Int32), (9 : Int32)) = (nI 0, nI 9) from rfl, a, Option.bind_some]
  exact b
theorem x_thk {σ : fr_St} {f : Nat → Nat} (hf : ∀ l, f l ≤ 32) (h23 : ∀ l, 1 ≤ l → l < 10 → σ 23 l = nI (f l)) : ∃ l, zX1_thickest σ = some (nI l) ∧ l ≤ 9 ∧ (0 < l → 0 < f l) ∧ ∀ j, l < j → j ≤ 9 → f j = 0 := by
  unfold zX1_thickest
  obtain ⟨z, hz, l, e, h⟩ := lp_fu (body := fun (b1 : Int32) => zX1_thickest_L3 σ b1)
    (fun i b => b = nI (9 - i) ∧ ∀ j, 9 - i < j → j ≤ 9 → f j = 0)
    (fun z => ∃ l, fr_ei (fun r => some r) (fun (c2 : Unit) => some 0) z = some (nI l) ∧ l ≤ 9 ∧ (0 < l → 0 < f l) ∧ ∀ j, l < j → j ≤ 9 → f j = 0) 9 (by omega)
    (fun i b hi hI => by
      obtain ⟨rfl, h⟩ := hI
      obtain ⟨v, hv⟩ : ∃ v, 9 - i = v + 1 := ⟨8 - i, by omega⟩
      have hv' : 9 - (i + 1) = v := by omega
      rw [hv] at h ⊢
      rw [hv']
      unfold zX1_thickest_L3
      have := hf (v + 1)
      rw [if_neg (nI_nle (by omega) (by omega)), fr_al_nI (show v + 1 < 10 by omega) (by decide), Option.bind_some, h23 (v + 1) (by omega) (by omega)]
      by_cases e : f (v + 1) = 0
      · left
        rw [if_pos (by rw [nI_le0 (by omega)]; exact e), nI_dec]
        refine ⟨_, rfl, rfl, fun j a b => ?_⟩
        by_cases ej : j = v + 1
        · rw [ej]; exact e
        · exact h j (by omega) b
      · right
        rw [if_neg (nI_nle (by omega) (by omega))]
        exact ⟨_, rfl, v + 1, rfl, by omega, fun _ => by omega, h⟩)
    (fun b hI => by
      obtain ⟨rfl, h⟩ := hI
      refine ⟨.inr (), ?_, 0, rfl, by omega, fun h => by omega, h⟩
      unfold zX1_thickest_L3
      rw [if_pos (by decide)])
    0 9 (by omega) ⟨rfl, fun j a b => by omega⟩
  rw [hz, Option.bind_some]
  exact ⟨l, e, h⟩
