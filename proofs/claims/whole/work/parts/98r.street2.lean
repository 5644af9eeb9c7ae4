/-! the street by the reference -/
theorem fr_rm_nI {a b : Nat} (ha : a < 2 ^ 31) (b0 : 0 < b) (hb : b < 2 ^ 31) : fr_rm (nI a) (nI b) = some (nI (a % b)) := by
  unfold fr_rm
  rw [if_neg (nI_ne0 b0 hb), pk_rem ha b0 hb]
theorem fc_7 : ∀ n, n ≤ 7 → fc n ≤ 5040 := by decide
theorem nI_m1s (j : Nat) : nI (j + 1) - 1 = nI j := nI_pred j
theorem nI_00 : nI 0 - 1 < 0 := by decide
/-- the digit of a code at place k -/
def dg (n x k : Nat) : Nat := x / fc (n - 1 - k) % (n - k)
theorem m_dig {σ : fr_St} {n x : Nat} (hn : n ≤ 7) (hx : x < 10000) (h27 : σ 0 27 = nI n) : ∃ f : Nat → Int32, fr_loop (fun (b1 : Int32 × Int32 × fr_St) => zX10_lays_L9 b1.1 b1.2.1 b1.2.2) fr_fu (nI x, nI n - 1, σ) = some (fr_row σ 19 f) ∧ ∀ k, k < n → f k = nI (dg n x k) := by
  obtain ⟨z, hz, f, rfl, hf⟩ := lp_fu (body := fun (b1 : Int32 × Int32 × fr_St) => zX10_lays_L9 b1.1 b1.2.1 b1.2.2)
    (fun i b => ∃ f : Nat → Int32, b = (nI (x / fc i), nI (n - i) - 1, fr_row σ 19 f) ∧ ∀ k, n - i ≤ k → k < n → f k = nI (dg n x k))
    (fun z => ∃ f : Nat → Int32, z = fr_row σ 19 f ∧ ∀ k, k < n → f k = nI (dg n x k)) n (by omega)
    (fun i b hi hI => by
      obtain ⟨f, rfl, hf⟩ := hI
      left
      obtain ⟨k, hk⟩ : ∃ k, n - i = k + 1 := ⟨n - i - 1, by omega⟩
      have hk' : n - (i + 1) = k := by omega
      rw [hk] at hf ⊢
      rw [hk', nI_pred]
      have hq : x / fc i ≤ x := Nat.div_le_self _ _
      show ∃ b', zX10_lays_L9 (nI (x / fc i)) (nI k) (fr_row σ 19 f) = _ ∧ _
      unfold zX10_lays_L9
      rw [if_neg (nI_pos (by omega)), show (fr_row σ 19 f) 0 27 = nI n from h27, pk_sub (show k ≤ n by omega), fr_rm_nI (by omega) (by omega) (by omega), Option.bind_some, fr_as_nI (show k < 7 by omega) (by decide), Option.bind_some, fr_put_row]
      rw [show (fr_row σ 19 (upd f k (nI (x / fc i % (n - k))))) 0 27 = nI n from h27, pk_sub (show k ≤ n by omega), fr_dv_nI (by omega) (by omega) (by omega), Option.bind_some]
      refine ⟨_, rfl, upd f k (nI (x / fc i % (n - k))), ?_, fun j a b => ?_⟩
      · rw [Nat.div_div_eq_div_mul, show fc i * (n - k) = fc (i + 1) by
          show fc i * (n - k) = (i + 1) * fc i
          rw [Nat.mul_comm, show n - k = i + 1 by omega], Int32.sub_eq_add_neg]
      · rw [upd_at]
        by_cases e : j = k
        · rw [if_pos e, e]
          unfold dg
          rw [show n - 1 - k = i by omega]
        · rw [if_neg e]; exact hf j (by omega) b)
    (fun b hI => by
      obtain ⟨f, rfl, hf⟩ := hI
      rw [Nat.sub_self] at hf ⊢
      refine ⟨_, ?_, f, rfl, fun k hk => hf k (by omega) hk⟩
      show zX10_lays_L9 _ (nI 0 - 1) _ = _
      unfold zX10_lays_L9
      rw [if_pos nI_00])
    0 (nI x, nI n - 1, σ) (by omega) ⟨σ 19, by rw [fr_row_id, Nat.sub_zero, show fc 0 = 1 from rfl, Nat.div_one], fun k a b => by omega⟩
  exact ⟨f, hz, hf⟩
theorem m_skip {σ : fr_St} {n k d : Nat} {f : Nat → Nat} (hn : n ≤ 7) (hk : k < n) (hd : d < 100) (hf : ∀ j, k < j → j < n → f j < 100) (h27 : σ 0 27 = nI n) (h19 : σ 19 k = nI d) (h19' : ∀ j, k < j → j < n → σ 19 j = nI (f j)) :
    ∃ g : Nat → Int32, fr_loop (fun (b1 : Int32 × fr_St) => zX10_lays_L58 (nI k) b1.1 b1.2) fr_fu (nI k + 1, σ) = some (fr_row σ 19 g) ∧ (∀ j, k < j → j < n → g j = nI (sk_p d (f j))) ∧ ∀ j, j ≤ k → g j = σ 19 j := by
  obtain ⟨z, hz, g, rfl, hg, hg'⟩ := lp_fu (body := fun (b1 : Int32 × fr_St) => zX10_lays_L58 (nI k) b1.1 b1.2)
    (fun i b => ∃ g : Nat → Int32, b = (nI (k + 1 + i), fr_row σ 19 g) ∧ (∀ j, k < j → j < k + 1 + i → g j = nI (sk_p d (f j))) ∧ (∀ j, k + 1 + i ≤ j → j < n → g j = nI (f j)) ∧ ∀ j, j ≤ k → g j = σ 19 j)
    (fun z => ∃ g : Nat → Int32, z = fr_row σ 19 g ∧ (∀ j, k < j → j < n → g j = nI (sk_p d (f j))) ∧ ∀ j, j ≤ k → g j = σ 19 j) (n - (k + 1)) (by omega)
    (fun i b hi hI => by
      obtain ⟨g, rfl, h1, h2, h3⟩ := hI
      left
      show ∃ b', zX10_lays_L58 (nI k) (nI (k + 1 + i)) (fr_row σ 19 g) = _ ∧ _
      have hfj := hf (k + 1 + i) (by omega) (by omega)
      unfold zX10_lays_L58
      rw [show (fr_row σ 19 g) 0 27 = nI n from h27, if_neg (nI_ge (show k + 1 + i < n by omega) (by omega)), fr_al_nI (show k + 1 + i < 7 by omega) (by decide), Option.bind_some, Option.bind_some, fr_al_nI (show k < 7 by omega) (by decide), Option.bind_some, fr_row_self, h2 (k + 1 + i) (by omega) (by omega), h3 k (by omega), h19]
      have fin : ∀ v : Int32, v = nI (sk_p d (f (k + 1 + i))) → (∀ j, k < j → j < k + 1 + (i + 1) → upd g (k + 1 + i) v j = nI (sk_p d (f j))) ∧ (∀ j, k + 1 + (i + 1) ≤ j → j < n → upd g (k + 1 + i) v j = nI (f j)) ∧ ∀ j, j ≤ k → upd g (k + 1 + i) v j = σ 19 j := fun v hv => by
        refine ⟨fun j a b => ?_, fun j a b => ?_, fun j a => ?_⟩
        · rw [upd_at]
          by_cases e : j = k + 1 + i
          · rw [if_pos e, e, hv]
          · rw [if_neg e]; exact h1 j a (by omega)
        · rw [upd_at, if_neg (by omega)]; exact h2 j (by omega) b
        · rw [upd_at, if_neg (by omega)]; exact h3 j a
      by_cases e : d ≤ f (k + 1 + i)
      · rw [if_neg (nI_nlt e (by omega)), fr_as_nI (show k + 1 + i < 7 by omega) (by decide), Option.bind_some, fr_put_row, nI_1, nI_1]
        exact ⟨_, rfl, _, by rw [Nat.add_assoc (k + 1)], fin _ (by unfold sk_p; rw [if_pos e])⟩
      · rw [if_pos (nI_lt (by omega) (by omega)), fr_as_nI (show k + 1 + i < 7 by omega) (by decide), Option.bind_some, fr_put_row, nI_1, Int32.add_zero]
        exact ⟨_, rfl, _, by rw [Nat.add_assoc (k + 1)], fin _ (by unfold sk_p; rw [if_neg e])⟩)
    (fun b hI => by
      obtain ⟨g, rfl, h1, h2, h3⟩ := hI
      rw [show k + 1 + (n - (k + 1)) = n by omega] at h1 h2 ⊢
      refine ⟨_, ?_, g, rfl, h1, h3⟩
      show zX10_lays_L58 (nI k) (nI n) (fr_row σ 19 g) = _
      unfold zX10_lays_L58
      rw [show (fr_row σ 19 g) 0 27 = nI n from h27, if_pos (nI_le (Nat.le_refl _) (by omega))])
    0 (nI k + 1, σ) (by omega) ⟨σ 19, by rw [fr_row_id, nI_1], fun j a b => by omega, fun j a b => h19' j (by omega) b, fun j _ => rfl⟩
  exact ⟨g, hz, hg, hg'⟩
theorem le_p_at {i x j : Nat} : (le_p (i + 1) x).getD (j + 1) 0 = if j < i then sk_p (x / fc i) ((le_p i (x % fc i)).getD j 0) else 0 := by
  show ((le_p i (x % fc i)).map (sk_p (x / fc i))).getD j 0 = _
  by_cases h : j < i
  · have hl : j < (le_p i (x % fc i)).length := by rw [le_p_len]; exact h
    rw [if_pos h, List.getD_eq_getElem?_getD, List.getElem?_map, List.getD_eq_getElem?_getD, List.getElem?_eq_getElem hl]
    rfl
  · have hl : (le_p i (x % fc i)).length ≤ j := by rw [le_p_len]; omega
    rw [if_neg h, List.getD_eq_getElem?_getD, List.getElem?_map, List.getElem?_eq_none hl]
    rfl
theorem le_p_g {m x j : Nat} (hx : x < fc m) (hj : j < m) : (le_p m x).getD j 0 < m := by
  have hl : j < (le_p m x).length := by rw [le_p_len]; exact hj
  rw [List.getD_eq_getElem?_getD, List.getElem?_eq_getElem hl]
  exact le_p_lt hx _ (List.getElem_mem hl)
theorem m_lays {σ : fr_St} {n x : Nat} (hn : n ≤ 7) (hx : x < fc n) (h27 : σ 0 27 = nI n) : ∃ f : Nat → Int32, zX10_lays σ (nI x) = some (fr_row σ 19 f) ∧ ∀ p, p < n → f p = nI ((le_p n x).getD p 0) := by
  have hx5 := fc_7 n hn
  obtain ⟨f0, e0, hf0⟩ := m_dig (σ := σ) (n := n) (x := x) hn (by omega) h27
  obtain ⟨z, hz, f, rfl, hf⟩ := lp_fu (body := fun (b6 : Int32 × fr_St) => zX10_lays_L49 b6.1 b6.2)
    (fun i b => ∃ f : Nat → Int32, b = (nI (n - i) - 1, fr_row σ 19 f) ∧ (∀ p, n - i ≤ p → p < n → f p = nI ((le_p i (x % fc i)).getD (p - (n - i)) 0)) ∧ ∀ p, p < n - i → f p = nI (dg n x p))
    (fun z => ∃ f : Nat → Int32, z = fr_row σ 19 f ∧ ∀ p, p < n → f p = nI ((le_p n x).getD p 0)) n (by omega)
    (fun i b hi hI => by
      obtain ⟨f, rfl, h1, h2⟩ := hI
      left
      obtain ⟨k, hk⟩ : ∃ k, n - i = k + 1 := ⟨n - i - 1, by omega⟩
      have hk' : n - (i + 1) = k := by omega
      rw [hk] at h1 h2 ⊢
      rw [hk', nI_pred]
      have hdk : dg n x k < i + 1 := by
        unfold dg
        rw [show n - k = i + 1 by omega]
        exact Nat.mod_lt _ (by omega)
      obtain ⟨g, eg, g1, g2⟩ := m_skip (σ := fr_row σ 19 f) (n := n) (k := k) (d := dg n x k) (f := fun p => (le_p i (x % fc i)).getD (p - (k + 1)) 0) hn (by omega) (by omega) (fun j a b => by
        have := le_p_g (m := i) (x := x % fc i) (j := j - (k + 1)) (Nat.mod_lt x (fc_pos i)) (by omega)
        omega) h27 (by rw [fr_row_self]; exact h2 k (by omega)) (fun j a b => by rw [fr_row_self]; exact h1 j (by omega) b)
      show ∃ b', zX10_lays_L49 (nI k) (fr_row σ 19 f) = _ ∧ _
      unfold zX10_lays_L49
      rw [if_neg (nI_pos (by omega)), eg, Option.bind_some, fr_row_row]
      refine ⟨_, rfl, g, by rw [Int32.sub_eq_add_neg], fun p a b => ?_, fun p a => ?_⟩
      · have ed : x % fc (i + 1) / fc i = dg n x k := by
          show x % ((i + 1) * fc i) / fc i = _
          rw [Nat.mul_comm, Nat.mod_mul_right_div_self]
          unfold dg
          rw [show n - 1 - k = i by omega, show n - k = i + 1 by omega]
        have em : x % fc (i + 1) % fc i = x % fc i := Nat.mod_mod_of_dvd x ⟨i + 1, by
          show (i + 1) * fc i = _
          rw [Nat.mul_comm]⟩
        by_cases e : p = k
        · rw [e, g2 k (Nat.le_refl _), fr_row_self, h2 k (by omega), Nat.sub_self, ← ed]
          rfl
        · obtain ⟨j, hj⟩ : ∃ j, p - k = j + 1 := ⟨p - k - 1, by omega⟩
          rw [g1 p (by omega) b, hj, le_p_at, if_pos (by omega), ed, em, show p - (k + 1) = j by omega]
      · rw [g2 p (by omega), fr_row_self]
        exact h2 p (by omega))
    (fun b hI => by
      obtain ⟨f, rfl, h1, h2⟩ := hI
      rw [Nat.sub_self] at h1 h2 ⊢
      refine ⟨_, ?_, f, rfl, fun p hp => ?_⟩
      · show zX10_lays_L49 (nI 0 - 1) _ = _
        unfold zX10_lays_L49
        rw [if_pos nI_00]
      · rw [h1 p (by omega) hp, Nat.mod_eq_of_lt hx, Nat.sub_zero])
    0 (nI n - 1, fr_row σ 19 f0) (by omega) ⟨f0, rfl, fun p a b => by omega, fun p hp => hf0 p (by omega)⟩
  refine ⟨f, ?_, hf⟩
  unfold zX10_lays
  rw [h27, e0, Option.bind_some, show (fr_row σ 19 f0) 0 27 = nI n from h27, hz, Option.bind_some]
theorem gr_sub {a b : Nat} (ha : a < 2 ^ 30) (hb : b < 2 ^ 30) : zX10_greater (nI a - nI b) 0 = nI (a - b) := by
  unfold zX10_greater
  by_cases h : b < a
  · rw [pk_sub (by omega), if_neg (nI_nle (by omega) (by omega))]
  · have : nI a - nI b ≤ 0 := by
      rw [Int32.le_iff_toInt_le, pk_sub_toInt ha hb]
      have e : (0 : Int32).toInt = 0 := by decide
      omega
    rw [if_pos this, show a - b = 0 by omega]
    rfl
theorem rw_l_le {C : Nat → Nat} : ∀ {l : List Nat} {t : Nat}, (∀ v ∈ l, C (2 * v) ≤ 9999) → rw_l C t l ≤ l.length * (t + l.length * 9999)
  | [], t, _ => by simp [rw_l]
  | c :: r, t, h => by
    have h1 := h c List.mem_cons_self
    have ih := rw_l_le (l := r) (t := t + C (2 * c)) (fun v hv => h v (List.mem_cons_of_mem _ hv))
    have h2 : rw_l C t (c :: r) = st_late C c t + rw_l C (t + C (2 * c)) r := rfl
    have h3 : st_late C c t ≤ t + 9999 := by unfold st_late; omega
    rw [List.length_cons, h2]
    have h4 : r.length * (t + C (2 * c) + r.length * 9999) ≤ r.length * (t + (r.length + 1) * 9999) := Nat.mul_le_mul_left _ (by omega)
    have h5 : (r.length + 1) * (t + (r.length + 1) * 9999) = r.length * (t + (r.length + 1) * 9999) + (t + (r.length + 1) * 9999) := Nat.succ_mul _ _
    omega
theorem m_late {σ : fr_St} {n : Nat} {C : Nat → Nat} {l : List Nat} (hn : n ≤ 7) (hl : l.length = n) (hlt : ∀ j, j < n → l.getD j 0 < n) (hC : ∀ j, j < 14 → C j ≤ 9999) (h27 : σ 0 27 = nI n) (h18 : ∀ j, j < 14 → σ 18 j = nI (C j)) (h19 : ∀ p, p < n → σ 19 p = nI (l.getD p 0)) : zX10_late σ = some (nI (rw_l C 0 l)) := by
  unfold zX10_late
  obtain ⟨z, hz, rfl⟩ := lp_fu (body := fun (b1 : Int32 × Int32 × Int32) => zX10_late_L6 σ b1.1 b1.2.1 b1.2.2)
    (fun i b => ∃ t s, b = (nI t, nI s, nI i) ∧ t ≤ i * 9999 ∧ s + rw_l C t (l.drop i) = rw_l C 0 l)
    (fun z => z = nI (rw_l C 0 l)) n (by omega)
    (fun i b hi hI => by
      obtain ⟨t, s, rfl, ht, hs⟩ := hI
      left
      show ∃ b', zX10_late_L6 σ (nI t) (nI s) (nI i) = _ ∧ _
      have hv := hlt i hi
      have c1 := hC (2 * l.getD i 0) (by omega)
      have c2 := hC (2 * l.getD i 0 + 1) (by omega)
      have hil : i < l.length := by omega
      have hd : l.drop i = l.getD i 0 :: l.drop (i + 1) := by
        rw [List.drop_eq_getElem_cons hil, List.getD_eq_getElem?_getD, List.getElem?_eq_getElem hil]
        rfl
      rw [hd] at hs
      have e2 : (2 : Int32) * nI (l.getD i 0) = nI (2 * l.getD i 0) := by rw [show (2 : Int32) = nI 2 from rfl, pk_mul]
      unfold zX10_late_L6
      rw [h27, if_neg (nI_ge hi (by omega)), fr_al_nI (show i < 7 by omega) (by decide), Option.bind_some, h19 i hi, e2, fr_al_nI (show 2 * l.getD i 0 < 14 by omega) (by decide), Option.bind_some, Option.bind_some, e2, nI_1, fr_al_nI (show 2 * l.getD i 0 + 1 < 14 by omega) (by decide), Option.bind_some, h18 _ (by omega), h18 _ (by omega), nI_add, gr_sub (by omega) (by omega), nI_add, nI_1]
      refine ⟨_, rfl, _, _, rfl, by omega, ?_⟩
      have : rw_l C t (l.getD i 0 :: l.drop (i + 1)) = st_late C (l.getD i 0) t + rw_l C (t + C (2 * l.getD i 0)) (l.drop (i + 1)) := rfl
      rw [this] at hs
      unfold st_late at hs
      omega)
    (fun b hI => by
      obtain ⟨t, s, rfl, ht, hs⟩ := hI
      refine ⟨nI s, ?_, ?_⟩
      · show zX10_late_L6 σ (nI t) (nI s) (nI n) = _
        unfold zX10_late_L6
        rw [h27, if_pos (nI_le (Nat.le_refl _) (by omega))]
      · rw [List.drop_of_length_le (by omega)] at hs
        rw [← hs]
        rfl)
    0 (0, 0, 0) (by omega) ⟨0, 0, rfl, by omega, by rw [List.drop_zero, Nat.zero_add]⟩
  rw [hz, Option.bind_some]
theorem m_copy {σ : fr_St} {n : Nat} {k1 k2 k3 : Int32} (hn : n ≤ 7) (h27 : σ 0 27 = nI n) : ∃ f : Nat → Int32, fr_loop (fun (b3 : Int32 × fr_St) => zX10_findRow_L59 k1 k2 k3 b3.1 b3.2) fr_fu (0, σ) = some (fr_row σ 20 f) ∧ ∀ p, p < n → f p = σ 19 p := by
  obtain ⟨z, hz, f, rfl, hf⟩ := lp_fu (body := fun (b3 : Int32 × fr_St) => zX10_findRow_L59 k1 k2 k3 b3.1 b3.2)
    (fun i b => ∃ f : Nat → Int32, b = (nI i, fr_row σ 20 f) ∧ ∀ p, p < i → f p = σ 19 p)
    (fun z => ∃ f : Nat → Int32, z = fr_row σ 20 f ∧ ∀ p, p < n → f p = σ 19 p) n (by omega)
    (fun i b hi hI => by
      obtain ⟨f, rfl, hf⟩ := hI
      left
      show ∃ b', zX10_findRow_L59 k1 k2 k3 (nI i) (fr_row σ 20 f) = _ ∧ _
      unfold zX10_findRow_L59
      rw [show (fr_row σ 20 f) 0 27 = nI n from h27, if_neg (nI_ge hi (by omega)), fr_al_nI (show i < 7 by omega) (by decide), Option.bind_some, fr_as_nI (show i < 7 by omega) (by decide), Option.bind_some, fr_put_row, nI_1, fr_row_ne (by decide)]
      refine ⟨_, rfl, _, rfl, fun p hp => ?_⟩
      rw [upd_at]
      by_cases e : p = i
      · rw [if_pos e, e]
      · rw [if_neg e]; exact hf p (by omega))
    (fun b hI => by
      obtain ⟨f, rfl, hf⟩ := hI
      refine ⟨_, ?_, f, rfl, hf⟩
      show zX10_findRow_L59 k1 k2 k3 (nI n) (fr_row σ 20 f) = _
      unfold zX10_findRow_L59
      rw [show (fr_row σ 20 f) 0 27 = nI n from h27, if_pos (nI_le (Nat.le_refl _) (by omega))])
    0 (0, σ) (by omega) ⟨σ 20, by rw [fr_row_id]; rfl, fun p hp => by omega⟩
  exact ⟨f, hz, hf⟩
theorem m_codes {σ : fr_St} {n : Nat} (hn : n ≤ 7) (h27 : σ 0 27 = nI n) : fr_loop (fun (b1 : Int32 × Int32) => zX10_findRow_L4 σ b1.1 b1.2) fr_fu (1, 2) = some (nI (fc n)) := by
  have := lp_seq (body := fun (b1 : Int32 × Int32) => zX10_findRow_L4 σ b1.1 b1.2) (fun i => (nI (fc (i + 1)), nI (i + 2))) (n - 1) (nI (fc n)) (by omega) (fun i hi => by
      show zX10_findRow_L4 σ (nI (fc (i + 1))) (nI (i + 2)) = some (.inl (nI ((i + 2) * fc (i + 1)), nI (i + 2 + 1)))
      unfold zX10_findRow_L4
      rw [h27, if_neg (nI_nlt (by omega) (by omega)), pk_mul, nI_1, Nat.mul_comm]) (by
      show zX10_findRow_L4 σ (nI (fc (n - 1 + 1))) (nI (n - 1 + 2)) = _
      unfold zX10_findRow_L4
      rw [h27, if_pos (nI_lt (by omega) (by omega))]
      cases n with
      | zero => rfl
      | succ n => rfl) 0 (by omega)
  exact this
theorem fmin_up {F : Nat → Nat} {i x : Nat} (h : fmin F i x) : fmin F (i + 1) (if F x ≤ F i then x else i) := by
  have := h.1
  by_cases e : F x ≤ F i
  · rw [if_pos e]
    refine ⟨by omega, fun y hy => ?_, h.2.2⟩
    by_cases ey : y = i
    · rw [ey]; exact e
    · exact h.2.1 y (by omega)
  · rw [if_neg e]
    refine ⟨by omega, fun y hy => ?_, fun y hy => ?_⟩
    · by_cases ey : y = i
      · rw [ey]; exact Nat.le_refl _
      · have := h.2.1 y (by omega); omega
    · have := h.2.1 y hy; omega
theorem m_row {σ : fr_St} {n : Nat} {C : Nat → Nat} (hn : n ≤ 7) (hC : ∀ j, j < 14 → C j ≤ 9999) (h27 : σ 0 27 = nI n) (h18 : ∀ j, j < 14 → σ 18 j = nI (C j)) :
    ∃ σ', zX10_findRow σ = some (nI (st_b C n).1, σ') ∧ (∀ p, p < n → σ' 20 p = nI ((st_b C n).2.getD p 0)) ∧ ∀ q, q ≠ 19 → q ≠ 20 → σ' q = σ q := by
  obtain ⟨xb, hxb, eb⟩ := st_b_min (C := C) (n := n)
  have hfc := fc_7 n hn
  have hfc0 := fc_pos n
  have hF : ∀ y, y < fc n → rw_l C 0 (le_p n y) ≤ 600000 := fun y hy => by
    have := rw_l_le (C := C) (l := le_p n y) (t := 0) (fun v hv => hC _ (by have := le_p_lt hy v hv; omega))
    rw [le_p_len] at this
    have h2 : n * (0 + n * 9999) ≤ 7 * (0 + 7 * 9999) := Nat.mul_le_mul hn (by omega)
    omega
  unfold zX10_findRow
  rw [m_codes hn h27, Option.bind_some]
  obtain ⟨z, hz, σ', x, rfl, hq, hx, h20⟩ := lp_fu (body := fun (b3 : Int32 × Int32 × fr_St) => zX10_findRow_L26 (nI (fc n)) b3.1 b3.2.1 b3.2.2)
    (fun i b => ∃ (v : Int32) (σ' : fr_St), b = (v, nI i, σ') ∧ (∀ q, q ≠ 19 → q ≠ 20 → σ' q = σ q) ∧ ((i = 0 ∧ v = -1) ∨ ∃ x, fmin (fun y => rw_l C 0 (le_p n y)) i x ∧ v = nI (rw_l C 0 (le_p n x)) ∧ ∀ p, p < n → σ' 20 p = nI ((le_p n x).getD p 0)))
    (fun z => ∃ (σ' : fr_St) (x : Nat), z = (nI (rw_l C 0 (le_p n x)), σ') ∧ (∀ q, q ≠ 19 → q ≠ 20 → σ' q = σ q) ∧ fmin (fun y => rw_l C 0 (le_p n y)) (fc n) x ∧ ∀ p, p < n → σ' 20 p = nI ((le_p n x).getD p 0)) (fc n) (by omega)
    (fun i b hi hI => by
      obtain ⟨v, σ', rfl, hq, hv⟩ := hI
      left
      show ∃ b', zX10_findRow_L26 (nI (fc n)) v (nI i) σ' = _ ∧ _
      have s27 : σ' 0 27 = nI n := by rw [hq 0 (by decide) (by decide)]; exact h27
      obtain ⟨f, ef, hf⟩ := m_lays (σ := σ') (n := n) (x := i) hn hi s27
      have el := m_late (σ := fr_row σ' 19 f) (C := C) (l := le_p n i) hn (le_p_len n i) (fun j hj => le_p_g hi hj) hC s27 (fun j hj => by rw [fr_row_ne (by decide), hq 18 (by decide) (by decide)]; exact h18 j hj) (fun p hp => by rw [fr_row_self]; exact hf p hp)
      have hqf : ∀ q, q ≠ 19 → q ≠ 20 → (fr_row σ' 19 f) q = σ q := fun q a b => by rw [fr_row_ne a]; exact hq q a b
      obtain ⟨g, eg, hg⟩ := m_copy (σ := fr_row σ' 19 f) (k1 := nI (fc n)) (k2 := nI (rw_l C 0 (le_p n i))) (k3 := nI i) hn s27
      have hqg : ∀ q, q ≠ 19 → q ≠ 20 → (fr_row (fr_row σ' 19 f) 20 g) q = σ q := fun q a b => by rw [fr_row_ne b]; exact hqf q a b
      have h20g : ∀ p, p < n → (fr_row (fr_row σ' 19 f) 20 g) 20 p = nI ((le_p n i).getD p 0) := fun p hp => by rw [fr_row_self, hg p hp, fr_row_self]; exact hf p hp
      have hFi := hF i hi
      unfold zX10_findRow_L26
      rw [if_neg (nI_ge hi (by omega)), ef, Option.bind_some, el, Option.bind_some, nI_1]
      rcases hv with ⟨rfl, rfl⟩ | ⟨x, hx, rfl, h20⟩
      · rw [if_pos rfl, eg, Option.bind_some]
        exact ⟨_, rfl, _, _, rfl, hqg, Or.inr ⟨0, ⟨by omega, fun y hy => by have : y = 0 := by omega
                                                                            subst this; exact Nat.le_refl _, fun y hy => by omega⟩, rfl, h20g⟩⟩
      · have hFx := hF x (by have := hx.1; omega)
        have hup := fmin_up hx
        rw [if_neg (nI_m1 (by omega))]
        by_cases e : rw_l C 0 (le_p n x) ≤ rw_l C 0 (le_p n i)
        · rw [if_pos e] at hup
          rw [if_pos (nI_le e (by omega))]
          exact ⟨_, rfl, _, _, rfl, hqf, Or.inr ⟨x, hup, rfl, fun p hp => by rw [fr_row_ne (by decide)]; exact h20 p hp⟩⟩
        · rw [if_neg e] at hup
          rw [if_neg (nI_ge (by omega) (by omega)), eg, Option.bind_some]
          exact ⟨_, rfl, _, _, rfl, hqg, Or.inr ⟨i, hup, rfl, h20g⟩⟩)
    (fun b hI => by
      obtain ⟨v, σ', rfl, hq, hv⟩ := hI
      rcases hv with ⟨h0, _⟩ | ⟨x, hx, rfl, h20⟩
      · omega
      · refine ⟨_, ?_, σ', x, rfl, hq, hx, h20⟩
        show zX10_findRow_L26 (nI (fc n)) _ (nI (fc n)) σ' = _
        unfold zX10_findRow_L26
        rw [if_pos (nI_le (Nat.le_refl _) (by omega))])
    0 ((-1), 0, σ) (by omega) ⟨-1, σ, rfl, fun _ _ _ => rfl, Or.inl ⟨rfl, rfl⟩⟩
  have ex := fmin_u hx hxb
  subst ex
  rw [hz, Option.bind_some, eb]
  exact ⟨σ', rfl, h20, hq⟩
