/-! numbers: Int32 as naturals -/
theorem i64_le (a b : Int32) : a.toInt64 ≤ b.toInt64 ↔ a ≤ b := by
  rw [Int64.le_iff_toInt_le, Int32.le_iff_toInt_le, Int32.toInt_toInt64, Int32.toInt_toInt64]
theorem lgc_lt (x y : Int64) : lg_cmp x y < 0 ↔ x < y := by
  unfold lg_cmp
  by_cases h1 : x > y
  · rw [if_pos h1]
    constructor
    · intro h; exact absurd h (by decide)
    · intro h; exact absurd h (by have := Int64.lt_iff_toInt_lt.mp h1; intro h; have := Int64.lt_iff_toInt_lt.mp h; omega)
  · rw [if_neg h1]
    by_cases h2 : x = y
    · rw [if_pos h2]
      constructor
      · intro h; exact absurd h (by decide)
      · intro h; subst h2; exact absurd h (by intro h; have := Int64.lt_iff_toInt_lt.mp h; omega)
    · rw [if_neg h2]
      constructor
      · intro _
        rw [Int64.lt_iff_toInt_lt]
        have h3 : ¬ y.toInt < x.toInt := fun h => h1 (Int64.lt_iff_toInt_lt.mpr h)
        have h4 : ¬ x.toInt = y.toInt := fun h => h2 (Int64.toInt_inj.mp h)
        omega
      · intro _; decide
theorem lgc_gt (x y : Int64) : 0 < lg_cmp x y ↔ y < x := by
  unfold lg_cmp
  by_cases h1 : x > y
  · rw [if_pos h1]
    exact ⟨fun _ => h1, fun _ => by decide⟩
  · rw [if_neg h1]
    by_cases h2 : x = y
    · rw [if_pos h2]
      exact ⟨fun h => absurd h (by decide), fun h => absurd h h1⟩
    · rw [if_neg h2]
      exact ⟨fun h => absurd h (by decide), fun h => absurd h h1⟩
theorem i64_lt (a b : Int32) : a.toInt64 < b.toInt64 ↔ a < b := by
  rw [Int64.lt_iff_toInt_lt, Int32.lt_iff_toInt_lt, Int32.toInt_toInt64, Int32.toInt_toInt64]
theorem in_lit (a l h : Int32) : zX10_in a.toInt64 l.toInt64 h.toInt64 = zX9_within a l h := by
  unfold zX10_in zX9_within
  simp only [lgc_lt, lgc_gt, i64_lt]
theorem in_isTwo (a : Int32) : zX10_isTwo a = zX9_within a 0 1 := in_lit a 0 1
theorem in_isTool (a : Int32) : zX10_isTool a = zX9_within a 0 3 := in_lit a 0 3
theorem in_isSheet (a : Int32) : zX10_isSheet a = zX9_within a 0 3 := in_lit a 0 3
theorem in_isCell (a : Int32) : zX10_isAnyCell a = zX9_within a 0 31 := in_lit a 0 31
theorem in_0_1 (a : Int32) : zX10_in a.toInt64 0 1 = zX9_within a 0 1 := in_lit a 0 1
theorem in_0_255 (a : Int32) : zX10_in a.toInt64 0 255 = zX9_within a 0 255 := in_lit a 0 255
theorem in_0_3 (a : Int32) : zX10_in a.toInt64 0 3 = zX9_within a 0 3 := in_lit a 0 3
theorem in_0_31 (a : Int32) : zX10_in a.toInt64 0 31 = zX9_within a 0 31 := in_lit a 0 31
theorem in_0_4 (a : Int32) : zX10_in a.toInt64 0 4 = zX9_within a 0 4 := in_lit a 0 4
theorem in_0_9 (a : Int32) : zX10_in a.toInt64 0 9 = zX9_within a 0 9 := in_lit a 0 9
theorem in_0_2 (a : Int32) : zX10_in a.toInt64 0 2 = zX9_within a 0 2 := in_lit a 0 2
theorem in_m1_31 (a : Int32) : zX10_in a.toInt64 (-1) 31 = zX9_within a (-1) 31 := in_lit a (-1) 31
theorem in_0_99 (a : Int32) : zX10_in a.toInt64 0 99 = zX9_within a 0 99 := in_lit a 0 99
theorem in_1_60 (a : Int32) : zX10_in a.toInt64 1 60 = zX9_within a 1 60 := in_lit a 1 60
theorem in_m1_99 (a : Int32) : zX10_in a.toInt64 (-1) 99 = zX9_within a (-1) 99 := in_lit a (-1) 99
theorem in_0_30 (a : Int32) : zX10_in a.toInt64 0 30 = zX9_within a 0 30 := in_lit a 0 30
theorem in_1_5 (a : Int32) : zX10_in a.toInt64 1 5 = zX9_within a 1 5 := in_lit a 1 5
theorem in_0_60 (a : Int32) : zX10_in a.toInt64 0 60 = zX9_within a 0 60 := in_lit a 0 60
theorem in_0_16 (a : Int32) : zX10_in a.toInt64 0 16 = zX9_within a 0 16 := in_lit a 0 16
theorem in_0_9999 (a : Int32) : zX10_in a.toInt64 0 9999 = zX9_within a 0 9999 := in_lit a 0 9999
theorem in_1_9999 (a : Int32) : zX10_in a.toInt64 1 9999 = zX9_within a 1 9999 := in_lit a 1 9999
theorem in_m1_6 (a : Int32) : zX10_in a.toInt64 (-1) 6 = zX9_within a (-1) 6 := in_lit a (-1) 6
theorem in_0_999 (a : Int32) : zX10_in a.toInt64 0 999 = zX9_within a 0 999 := in_lit a 0 999
theorem in_0h (a h : Int32) : zX10_in a.toInt64 0 h.toInt64 = zX9_within a 0 h := in_lit a 0 h
theorem wi_one {a l h : Int32} (h1 : l ≤ a) (h2 : a ≤ h) : zX9_within a l h = 1 := by
  unfold zX9_within
  rw [if_neg (Int32.not_lt.mpr h1), if_neg (Int32.not_lt.mpr h2)]
theorem wi_of {a l h : Int32} (h0 : ¬ zX9_within a l h = 0) : l ≤ a ∧ a ≤ h := by
  unfold zX9_within at h0
  by_cases h1 : a < l
  · simp [h1] at h0
  · by_cases h2 : h < a
    · simp [h1, h2] at h0
    · exact ⟨Int32.not_lt.mp h1, Int32.not_lt.mp h2⟩
/-- an argument within 0 .. m, or refused -/
theorem wi_c (a : Int32) {M : Int32} {m : Nat} (hM : M = nI m) (hm : m < 2 ^ 31) : zX9_within a 0 M = 0 ∨ ∃ j, j ≤ m ∧ a = nI j ∧ zX9_within a 0 M = 1 := by
  by_cases h : zX9_within a 0 M = 0
  · exact Or.inl h
  · obtain ⟨h1, h2⟩ := wi_of h
    subst hM
    obtain ⟨j, h3, h4⟩ := nI_of2 (nI_toInt hm) (Int32.not_lt.mpr h1) h2
    exact Or.inr ⟨j, h3, h4, wi_one h1 h2⟩
/-- the same from 1 on -/
theorem wi_c1 (a : Int32) {M : Int32} {m : Nat} (hM : M = nI m) (hm : m < 2 ^ 31) : zX9_within a 1 M = 0 ∨ ∃ j, 1 ≤ j ∧ j ≤ m ∧ a = nI j ∧ zX9_within a 1 M = 1 := by
  by_cases h : zX9_within a 1 M = 0
  · exact Or.inl h
  · obtain ⟨h1, h2⟩ := wi_of h
    subst hM
    have h0 : (0 : Int32) ≤ a := by
      rw [Int32.le_iff_toInt_le] at h1 ⊢
      exact Int.le_trans (by decide) h1
    obtain ⟨j, h3, h4⟩ := nI_of2 (nI_toInt hm) (Int32.not_lt.mpr h0) h2
    refine Or.inr ⟨j, ?_, h3, h4, wi_one h1 h2⟩
    subst h4
    have := Int32.le_iff_toInt_le.mp h1
    rw [nI_toInt (by omega)] at this
    have e : (1 : Int32).toInt = 1 := by decide
    omega
/-- the same from -1 on -/
theorem wi_cm (a : Int32) {M : Int32} {m : Nat} (hM : M = nI m) (hm : m < 2 ^ 31) : zX9_within a (-1) M = 0 ∨ (a = -1 ∧ zX9_within a (-1) M = 1) ∨ ∃ j, j ≤ m ∧ a = nI j ∧ zX9_within a (-1) M = 1 := by
  by_cases h : zX9_within a (-1) M = 0
  · exact Or.inl h
  · obtain ⟨h1, h2⟩ := wi_of h
    subst hM
    by_cases h3 : a < 0
    · refine Or.inr (Or.inl ⟨?_, wi_one h1 h2⟩)
      apply Int32.toInt_inj.mp
      have e1 := Int32.le_iff_toInt_le.mp h1
      have e2 := Int32.lt_iff_toInt_lt.mp h3
      have e3 : (-1 : Int32).toInt = -1 := by decide
      have e4 : (0 : Int32).toInt = 0 := by decide
      omega
    · obtain ⟨j, h4, h5⟩ := nI_of2 (nI_toInt hm) h3 h2
      exact Or.inr (Or.inr ⟨j, h4, h5, wi_one h1 h2⟩)
theorem wi_nI {j m : Nat} (h : j ≤ m) (hm : m < 2 ^ 31) : zX9_within (nI j) 0 (nI m) = 1 := wi_one (nI_pos' (by omega)) (nI_le h hm)
theorem nI_m1 {j : Nat} (h : j < 2 ^ 31) : ¬ nI j = -1 := by
  intro e
  have := congrArg Int32.toInt e
  rw [nI_toInt h] at this
  have e2 : (-1 : Int32).toInt = -1 := by decide
  omega
theorem nI_le0 {j : Nat} (h : j < 2 ^ 31) : nI j ≤ 0 ↔ j = 0 := by
  rw [← nI_0, nI_leI h (by decide)]; omega
theorem nI_lt0 {j : Nat} (h : j < 2 ^ 31) : 0 < nI j ↔ 0 < j := by
  rw [← nI_0, nI_ltI (by decide) h]
theorem nI_eq0 {j : Nat} (h : j < 2 ^ 31) : nI j = 0 ↔ j = 0 := by
  rw [← nI_0, nI_eq h (by decide)]
theorem nI_ge0 {j : Nat} (h : j < 2 ^ 31) : 0 ≤ nI j := nI_pos' h
theorem fr_put_at {σ : fr_St} {q j : Nat} {v : Int32} (a : Nat) : fr_put σ q j v a = if a = q then upd (σ q) j v else σ a := rfl
theorem upd_at {f : Nat → Int32} {j : Nat} {v : Int32} (b : Nat) : upd f j v b = if b = j then v else f b := rfl
theorem fr_row_at {σ : fr_St} {q : Nat} {f : Nat → Int32} (a : Nat) : fr_row σ q f a = if a = q then f else σ a := rfl
/-- sums -/
def su (f : Nat → Nat) : Nat → Nat
  | 0 => 0
  | n + 1 => su f n + f n
theorem su_congr {f g : Nat → Nat} : ∀ {n : Nat}, (∀ i, i < n → f i = g i) → su f n = su g n
  | 0, _ => rfl
  | n + 1, h => by
    show su f n + f n = su g n + g n
    rw [su_congr (fun i hi => h i (by omega)), h n (by omega)]
theorem su_add {f g : Nat → Nat} : ∀ {n : Nat}, su (fun i => f i + g i) n = su f n + su g n
  | 0 => rfl
  | n + 1 => by
    show su (fun i => f i + g i) n + (f n + g n) = su f n + f n + (su g n + g n)
    rw [su_add]; omega
theorem su_mul {f : Nat → Nat} {k : Nat} : ∀ {n : Nat}, su (fun i => f i * k) n = su f n * k
  | 0 => (Nat.zero_mul k).symm
  | n + 1 => by
    show su (fun i => f i * k) n + f n * k = (su f n + f n) * k
    rw [su_mul, Nat.add_mul]
theorem su_le {f : Nat → Nat} {k : Nat} : ∀ {n : Nat}, (∀ i, i < n → f i ≤ k) → su f n ≤ n * k
  | 0, _ => Nat.zero_le _
  | n + 1, h => by
    show su f n + f n ≤ (n + 1) * k
    have h1 := su_le (f := f) (k := k) (n := n) (fun i hi => h i (by omega))
    have h2 := h n (by omega)
    rw [Nat.add_mul]; omega
theorem su_swap {f : Nat → Nat → Nat} {m : Nat} : ∀ {n : Nat}, su (fun i => su (f i) m) n = su (fun j => su (fun i => f i j) n) m
  | 0 => by
    show 0 = _
    have : ∀ m, su (fun j => su (fun i => f i j) 0) m = 0 := by
      intro m
      induction m with
      | zero => rfl
      | succ m ih => show su _ m + 0 = 0; rw [ih]
    rw [this]
  | n + 1 => by
    show su (fun i => su (f i) m) n + su (f n) m = su (fun j => su (fun i => f i j) n + f n j) m
    rw [su_swap, su_add]
theorem su_upd {f : Nat → Nat} {p v : Nat} : ∀ {n : Nat}, p < n → su (fun i => if i = p then v else f i) n + f p = su f n + v
  | 0, h => by omega
  | n + 1, h => by
    show su (fun i => if i = p then v else f i) n + (if n = p then v else f n) + f p = su f n + f n + v
    by_cases e : n = p
    · subst e
      rw [su_congr (g := f) (fun i hi => by rw [if_neg (by omega)]), if_pos rfl]; omega
    · have := su_upd (f := f) (p := p) (v := v) (n := n) (by omega)
      rw [if_neg e]; omega
