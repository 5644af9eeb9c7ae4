/-! the street by the class: by the set of cars that are done -/
theorem mk_bit : ∀ m, m < 128 → ∀ c, c < 7 → (nI m >>> (nI c &&& 31)) &&& 1 = if m.testBit c then 1 else 0 := by decide +kernel
theorem mk_or : ∀ m, m < 128 → ∀ c, c < 7 → nI m ||| (1 <<< (nI c &&& 31)) = nI (m ||| 2 ^ c) := by decide +kernel
theorem mk_full : ∀ n, n ≤ 7 → (1 <<< (nI n &&& 31)) - 1 = nI (2 ^ n - 1) := by decide +kernel
theorem mk_gt : ∀ m, m < 128 → ∀ c, c < 7 → m.testBit c = false → m < m ||| 2 ^ c := by decide +kernel
theorem pw_7 : ∀ n, n ≤ 7 → 2 ^ n ≤ 128 := by decide
theorem pw_0 (n : Nat) : 0 < 2 ^ n := Nat.pow_pos (by decide)
def re_m (n m : Nat) : List Nat := (List.range n).filter (fun c => !m.testBit c)
def sp_t (C : Nat → Nat) (n m : Nat) : Nat := su (fun c => if m.testBit c = true then C (2 * c) else 0) n
def v_b (C : Nat → Nat) (n m : Nat) : Nat × List Nat := st_best C (re_m n m).length (re_m n m) (sp_t C n m)
/-- how late, at least, all others are when car c is next -/
def l_w (C : Nat → Nat) (n m c : Nat) : Nat := st_late C c (sp_t C n m) + (v_b C n (m ||| 2 ^ c)).1
theorem bit_or {m c j : Nat} : (m ||| 2 ^ c).testBit j = (m.testBit j || decide (c = j)) := by
  rw [Nat.testBit_or, Nat.testBit_two_pow]
theorem re_nd {n m : Nat} : (re_m n m).Nodup := List.nodup_range.filter _
theorem re_er {n m c : Nat} : (re_m n m).erase c = re_m n (m ||| 2 ^ c) := by
  rw [re_nd.erase_eq_filter]
  unfold re_m
  rw [List.filter_filter]
  apply List.filter_congr
  intro x _
  rw [bit_or]
  by_cases e : x = c
  · subst e; simp
  · have e' : ¬ c = x := fun h => e h.symm
    cases m.testBit x <;> simp [e, e']
theorem re_mem {n m c : Nat} : c ∈ re_m n m ↔ c < n ∧ m.testBit c = false := by
  unfold re_m
  simp
theorem sp_or {C : Nat → Nat} {n m c : Nat} (hc : c < n) (hb : m.testBit c = false) : sp_t C n (m ||| 2 ^ c) = sp_t C n m + C (2 * c) := by
  unfold sp_t
  have u := su_upd (f := fun c => if m.testBit c = true then C (2 * c) else 0) (p := c) (v := C (2 * c)) (n := n) hc
  rw [hb, if_neg (by decide), Nat.add_zero] at u
  rw [← u]
  apply su_congr
  intro i _
  rw [bit_or]
  by_cases e : i = c
  · subst e; simp
  · rw [if_neg e, decide_eq_false (fun h => e h.symm), Bool.or_false]
theorem st_pick_congr {f g : Nat → Nat × List Nat} : ∀ {R : List Nat}, (∀ c ∈ R, f c = g c) → st_pick f R = st_pick g R
  | [], _ => rfl
  | a :: r, h => by
    unfold st_pick
    rw [st_pick_congr (R := r) (fun c hc => h c (List.mem_cons_of_mem _ hc)), h a List.mem_cons_self]
theorem vb_step {C : Nat → Nat} {n m k : Nat} (hk : (re_m n m).length = k + 1) : ∃ b, pk_b (fun c => !m.testBit c) (fun x y => decide (l_w C n m x < l_w C n m y)) n = some b ∧ b < n ∧ m.testBit b = false ∧ v_b C n m = (l_w C n m b, b :: (v_b C n (m ||| 2 ^ b)).2) ∧ (re_m n (m ||| 2 ^ b)).length = k := by
  have hcg : st_pick (fun c => (st_late C c (sp_t C n m) + (st_best C k ((re_m n m).erase c) (sp_t C n m + C (2 * c))).1, c :: (st_best C k ((re_m n m).erase c) (sp_t C n m + C (2 * c))).2)) (re_m n m) = st_pick (fun c => (l_w C n m c, c :: (v_b C n (m ||| 2 ^ c)).2)) (re_m n m) := st_pick_congr (fun c hc => by
    have hc' := re_mem.mp hc
    have hl : (re_m n (m ||| 2 ^ c)).length = k := by
      rw [← re_er, List.length_erase_of_mem hc, hk]; rfl
    have : st_best C k ((re_m n m).erase c) (sp_t C n m + C (2 * c)) = v_b C n (m ||| 2 ^ c) := by
      unfold v_b
      rw [hl, re_er, sp_or hc'.1 hc'.2]
    rw [this]
    rfl)
  have e : v_b C n m = (st_pick (fun c => (l_w C n m c, c :: (v_b C n (m ||| 2 ^ c)).2)) (re_m n m)).getD (0, []) := by
    rw [← hcg]
    unfold v_b
    rw [hk]
    rfl
  have hp : st_pick (fun c => (l_w C n m c, c :: (v_b C n (m ||| 2 ^ c)).2)) (re_m n m) = (pk_b (fun c => !m.testBit c) (fun x y => decide (l_w C n m x < l_w C n m y)) n).map (fun c => (l_w C n m c, c :: (v_b C n (m ||| 2 ^ c)).2)) := st_pick_pk n
  cases hb : pk_b (fun c => !m.testBit c) (fun x y => decide (l_w C n m x < l_w C n m y)) n with
  | none =>
    rw [hb] at hp
    obtain ⟨d, _, ed, _⟩ := st_pick_spec (f := fun c => (l_w C n m c, c :: (v_b C n (m ||| 2 ^ c)).2)) (R := re_m n m) (by
      intro h; rw [h] at hk; simp at hk)
    rw [hp] at ed
    simp at ed
  | some b =>
    have hcb := pk_can hb
    have hbf : m.testBit b = false := by simpa using hcb.2
    refine ⟨b, rfl, hcb.1, hbf, ?_, ?_⟩
    · rw [e, hp, hb]; rfl
    · rw [← re_er, List.length_erase_of_mem (re_mem.mpr ⟨hcb.1, hbf⟩), hk]; rfl
theorem sp_le {C : Nat → Nat} {n m : Nat} (hn : n ≤ 7) (hC : ∀ j, j < 14 → C j ≤ 9999) : sp_t C n m ≤ 69993 := by
  have := su_le (f := fun c => if m.testBit c = true then C (2 * c) else 0) (k := 9999) (n := n) (fun c hc => by
    have := hC (2 * c) (by omega)
    split <;> omega)
  have h2 : n * 9999 ≤ 7 * 9999 := Nat.mul_le_mul_right _ hn
  unfold sp_t
  omega
theorem vb_le {C : Nat → Nat} {n m : Nat} (hn : n ≤ 7) (hC : ∀ j, j < 14 → C j ≤ 9999) : (v_b C n m).1 ≤ 1000000 := by
  obtain ⟨x, hx, e⟩ := st_best_min (C := C) (m := (re_m n m).length) (R := re_m n m) (t := sp_t C n m) re_nd rfl
  have hlen : (re_m n m).length ≤ 7 := by
    have := List.length_filter_le (fun c => !m.testBit c) (List.range n)
    rw [List.length_range] at this
    exact Nat.le_trans this hn
  have hs := sp_le (C := C) (n := n) (m := m) hn hC
  unfold v_b
  rw [e]
  have h := rw_l_le (C := C) (l := rof (re_m n m) (le_p (re_m n m).length x)) (t := sp_t C n m) (fun v hv => by
    obtain ⟨u, hu, rfl⟩ := List.mem_map.mp hv
    have hul := le_p_lt hx.1 u hu
    have : (re_m n m).getD u 0 ∈ re_m n m := by
      rw [List.getD_eq_getElem?_getD, List.getElem?_eq_getElem hul]
      exact List.getElem_mem hul
    have := (re_mem.mp this).1
    exact hC _ (by omega))
  have hl2 : (rof (re_m n m) (le_p (re_m n m).length x)).length = (re_m n m).length := by
    unfold rof
    rw [List.length_map, le_p_len]
  rw [hl2] at h
  have h2 : (re_m n m).length * (sp_t C n m + (re_m n m).length * 9999) ≤ 7 * (69993 + 69993) := Nat.mul_le_mul hlen (by omega)
  dsimp only
  omega
/-- what the class keeps of the street's cars -/
def car_ok (C : Nat → Nat) (n : Nat) (σ : fr_St) : Prop := σ 24 4 = nI n ∧ ∀ c, c < 7 → σ 25 c = nI (C (2 * c)) ∧ σ 26 c = nI (C (2 * c + 1))
theorem x_spent {C : Nat → Nat} {n m : Nat} {σ : fr_St} (hn : n ≤ 7) (hm : m < 128) (h : car_ok C n σ) : zX6_spentOn σ (nI m) = some (nI (sp_t C n m)) := by
  unfold zX6_spentOn
  have hl := lp_seq (body := fun (b1 : Int32 × Int32) => zX6_spentOn_L4 σ (nI m) b1.1 b1.2) (fun i => (nI (su (fun c => if m.testBit c = true then C (2 * c) else 0) i), nI i)) n (nI (sp_t C n m)) (by omega) (fun i hi => by
      show zX6_spentOn_L4 σ (nI m) (nI (su (fun c => if m.testBit c = true then C (2 * c) else 0) i)) (nI i) = some (.inl (nI (su (fun c => if m.testBit c = true then C (2 * c) else 0) i + (if m.testBit i = true then C (2 * i) else 0)), nI (i + 1)))
      unfold zX6_spentOn_L4
      rw [h.1, if_neg (nI_ge hi (by omega)), mk_bit m hm i (by omega), nI_1]
      cases m.testBit i with
      | true =>
        rw [if_pos (show (if true = true then (1 : Int32) else 0) = 1 from rfl), fr_al_nI (show i < 7 by omega) (by decide), Option.bind_some, (h.2 i (by omega)).1, nI_add]
        rfl
      | false =>
        rw [if_neg (show ¬ (if false = true then (1 : Int32) else 0) = 1 by decide), Int32.add_zero]
        rfl) (by
      show zX6_spentOn_L4 σ (nI m) _ (nI n) = _
      unfold zX6_spentOn_L4
      rw [h.1, if_pos (nI_le (Nat.le_refl _) (by omega))]
      rfl) 0 (by omega)
  rw [show fr_loop (fun (b1 : Int32 × Int32) => zX6_spentOn_L4 σ (nI m) b1.1 b1.2) fr_fu (0, 0) = some (nI (sp_t C n m)) from hl, Option.bind_some]
theorem mx_sub {a b : Nat} (ha : a < 2 ^ 30) (hb : b < 2 ^ 30) : (if 0 < nI a - nI b then nI a - nI b else 0) = nI (a - b) := by
  have := gr_sub ha hb
  unfold zX10_greater at this
  by_cases h : nI a - nI b ≤ 0
  · rw [if_pos h] at this
    rw [if_neg (Int32.not_lt.mpr h)]
    exact this
  · rw [if_neg h] at this
    rw [if_pos (Int32.not_le.mp h)]
    exact this
theorem x_lw {C : Nat → Nat} {n m c : Nat} {σ : fr_St} (hn : n ≤ 7) (hC : ∀ j, j < 14 → C j ≤ 9999) (hm : m < 2 ^ n) (hc : c < n) (h : car_ok C n σ) (h28 : σ 28 (m ||| 2 ^ c) = nI (v_b C n (m ||| 2 ^ c)).1) : zX6_lateWith σ (nI m) (nI (sp_t C n m)) (nI c) = some (nI (l_w C n m c)) := by
  have h128 := pw_7 n hn
  have hs := sp_le (C := C) (n := n) (m := m) hn hC
  have c1 := hC (2 * c) (by omega)
  have c2 := hC (2 * c + 1) (by omega)
  have hor : m ||| 2 ^ c < 2 ^ n := Nat.or_lt_two_pow hm (Nat.pow_lt_pow_right (by decide) hc)
  unfold zX6_lateWith
  rw [fr_al_nI (show c < 7 by omega) (by decide), Option.bind_some, fr_al_nI (show c < 7 by omega) (by decide), Option.bind_some, mk_or m (by omega) c (by omega), fr_al_nI (show m ||| 2 ^ c < 128 by omega) (by decide), Option.bind_some, h28, (h.2 c (by omega)).1, (h.2 c (by omega)).2, nI_add, mx_sub (by omega) (by omega), nI_add]
  rfl
/-- what is known of the sets behind a set -/
theorem x_best {C : Nat → Nat} {n m k : Nat} {σ : fr_St} (hn : n ≤ 7) (hC : ∀ j, j < 14 → C j ≤ 9999) (hm : m < 2 ^ n) (hk : (re_m n m).length = k + 1) (h : car_ok C n σ) (h28 : ∀ c, c < n → m.testBit c = false → σ 28 (m ||| 2 ^ c) = nI (v_b C n (m ||| 2 ^ c)).1) :
    ∃ b, zX6_bestNext σ (nI m) (nI (sp_t C n m)) = some (nI b) ∧ b < n ∧ m.testBit b = false ∧ v_b C n m = (l_w C n m b, b :: (v_b C n (m ||| 2 ^ b)).2) ∧ (re_m n (m ||| 2 ^ b)).length = k := by
  have h128 := pw_7 n hn
  obtain ⟨b, eb, hb, hbf, ev, hl⟩ := vb_step (C := C) hk
  refine ⟨b, ?_, hb, hbf, ev, hl⟩
  have hlw : ∀ c, c < n → l_w C n m c ≤ 2000000 := fun c hc => by
    have a1 := vb_le (C := C) (n := n) (m := m ||| 2 ^ c) hn hC
    have a2 := sp_le (C := C) (n := n) (m := m) hn hC
    have a3 := hC (2 * c) (by omega)
    unfold l_w st_late
    omega
  unfold zX6_bestNext
  have hlp := lp_seq (body := fun (b1 : Int32 × Int32 × Int32) => zX6_bestNext_L8 σ (nI m) (nI (sp_t C n m)) b1.1 b1.2.1 b1.2.2) (fun i => (nI ((pk_b (fun c => !m.testBit c) (fun x y => decide (l_w C n m x < l_w C n m y)) i).getD 0), oI ((pk_b (fun c => !m.testBit c) (fun x y => decide (l_w C n m x < l_w C n m y)) i).map (l_w C n m)), nI i)) n (nI ((pk_b (fun c => !m.testBit c) (fun x y => decide (l_w C n m x < l_w C n m y)) n).getD 0)) (by omega) (fun i hi => by
      show zX6_bestNext_L8 σ (nI m) (nI (sp_t C n m)) (nI ((pk_b (fun c => !m.testBit c) (fun x y => decide (l_w C n m x < l_w C n m y)) i).getD 0)) (oI ((pk_b (fun c => !m.testBit c) (fun x y => decide (l_w C n m x < l_w C n m y)) i).map (l_w C n m))) (nI i) = some (.inl (nI ((if (!m.testBit i) = true then (match pk_b (fun c => !m.testBit c) (fun x y => decide (l_w C n m x < l_w C n m y)) i with
        | none => some i
        | some b => if decide (l_w C n m i < l_w C n m b) = true then some i else some b) else pk_b (fun c => !m.testBit c) (fun x y => decide (l_w C n m x < l_w C n m y)) i).getD 0), oI ((if (!m.testBit i) = true then (match pk_b (fun c => !m.testBit c) (fun x y => decide (l_w C n m x < l_w C n m y)) i with
        | none => some i
        | some b => if decide (l_w C n m i < l_w C n m b) = true then some i else some b) else pk_b (fun c => !m.testBit c) (fun x y => decide (l_w C n m x < l_w C n m y)) i).map (l_w C n m)), nI (i + 1)))
      have hc := fun b => pk_can (can := fun c => !m.testBit c) (bet := fun x y => decide (l_w C n m x < l_w C n m y)) (n := i) (b := b)
      generalize pk_b (fun c => !m.testBit c) (fun x y => decide (l_w C n m x < l_w C n m y)) i = z at *
      unfold zX6_bestNext_L8
      rw [h.1, if_neg (nI_ge hi (by omega)), mk_bit m (by omega) i (by omega), nI_1]
      cases hbi : m.testBit i with
      | true =>
        rw [if_neg (show ¬ (if true = true then (1 : Int32) else 0) = 0 by decide), if_neg (show ¬ (!true) = true by decide)]
      | false =>
        rw [if_pos (show (if false = true then (1 : Int32) else 0) = 0 from rfl), if_pos (show (!false) = true from rfl), x_lw hn hC hm hi h (h28 i hi hbi), Option.bind_some]
        cases z with
        | none => rfl
        | some b' =>
          have hb' := hc b' rfl
          have l1 := hlw i hi
          have l2 := hlw b' (by omega)
          rw [show oI (Option.map (l_w C n m) (some b')) = nI (l_w C n m b') from rfl, if_neg (nI_m1 (show l_w C n m b' < 2 ^ 31 by omega))]
          dsimp only
          by_cases e : l_w C n m i < l_w C n m b'
          · rw [if_neg (nI_ge e (by omega)), if_pos (decide_eq_true e)]
            rfl
          · rw [if_pos (nI_le (by omega) (by omega)), if_neg (by simp [e])]
            rfl) (by
      show zX6_bestNext_L8 σ (nI m) (nI (sp_t C n m)) _ _ (nI n) = _
      unfold zX6_bestNext_L8
      rw [h.1, if_pos (nI_le (Nat.le_refl _) (by omega))]) 0 (by omega)
  rw [show fr_loop (fun (b1 : Int32 × Int32 × Int32) => zX6_bestNext_L8 σ (nI m) (nI (sp_t C n m)) b1.1 b1.2.1 b1.2.2) fr_fu (0, (-1), 0) = some (nI ((pk_b (fun c => !m.testBit c) (fun x y => decide (l_w C n m x < l_w C n m y)) n).getD 0)) from hlp, Option.bind_some, eb]
  rfl
theorem re_full {n : Nat} : re_m n (2 ^ n - 1) = [] := by
  unfold re_m
  rw [List.filter_eq_nil_iff]
  intro c hc
  rw [Nat.testBit_two_pow_sub_one]
  have := List.mem_range.mp hc
  simp [this]
theorem re_some {n m : Nat} (hm : m < 2 ^ n - 1) : ∃ k, (re_m n m).length = k + 1 := by
  cases h : re_m n m with
  | cons a r => exact ⟨r.length, rfl⟩
  | nil =>
    exfalso
    have : m = 2 ^ n - 1 := by
      apply Nat.eq_of_testBit_eq
      intro i
      rw [Nat.testBit_two_pow_sub_one]
      by_cases hi : i < n
      · rw [decide_eq_true hi]
        cases x : m.testBit i with
        | true => rfl
        | false =>
          have := re_mem.mpr ⟨hi, x⟩
          rw [h] at this
          simp at this
      · rw [decide_eq_false hi]
        exact Nat.testBit_lt_two_pow (Nat.lt_of_lt_of_le (show m < 2 ^ n by omega) (Nat.pow_le_pow_right (by decide) (by omega)))
    omega
theorem vb_full {C : Nat → Nat} {n : Nat} : v_b C n (2 ^ n - 1) = (0, []) := by
  unfold v_b
  rw [re_full]
  rfl
theorem vb_0 {C : Nat → Nat} {n : Nat} : v_b C n 0 = st_b C n := by
  have e1 : re_m n 0 = List.range n := by
    unfold re_m
    rw [List.filter_eq_self]
    intro a _
    simp
  have e2 : sp_t C n 0 = 0 := by
    unfold sp_t
    have : ∀ k, su (fun c => if (0 : Nat).testBit c = true then C (2 * c) else 0) k = 0 := by
      intro k
      induction k with
      | zero => rfl
      | succ k ih =>
        show su _ k + _ = 0
        rw [ih]
        simp
    exact this n
  unfold v_b st_b
  rw [e1, e2, List.length_range]
theorem x_plan1 {C : Nat → Nat} {n : Nat} {σ : fr_St} (hn : n ≤ 7) (hC : ∀ j, j < 14 → C j ≤ 9999) (h : car_ok C n σ) (h0 : σ 28 (2 ^ n - 1) = 0) :
    ∃ f : Nat → Int32, fr_loop (fun (b2 : Int32 × fr_St) => zX6_plan_L20 b2.1 b2.2) fr_fu (nI (2 ^ n - 1) - 1, σ) = some (fr_row σ 28 f) ∧ ∀ m, m < 2 ^ n → f m = nI (v_b C n m).1 := by
  have h128 := pw_7 n hn
  have hp0 := pw_0 n
  obtain ⟨z, hz, f, rfl, hf⟩ := lp_fu (body := fun (b2 : Int32 × fr_St) => zX6_plan_L20 b2.1 b2.2)
    (fun i b => ∃ f : Nat → Int32, b = (nI (2 ^ n - 1 - i) - 1, fr_row σ 28 f) ∧ ∀ m, 2 ^ n - 1 - i ≤ m → m < 2 ^ n → f m = nI (v_b C n m).1)
    (fun z => ∃ f : Nat → Int32, z = fr_row σ 28 f ∧ ∀ m, m < 2 ^ n → f m = nI (v_b C n m).1) (2 ^ n - 1) (by omega)
    (fun i b hi hI => by
      obtain ⟨f, rfl, hf⟩ := hI
      left
      obtain ⟨m, hm⟩ : ∃ m, 2 ^ n - 1 - i = m + 1 := ⟨2 ^ n - 1 - i - 1, by omega⟩
      have hm' : 2 ^ n - 1 - (i + 1) = m := by omega
      rw [hm] at hf ⊢
      rw [hm', nI_pred]
      have hc : car_ok C n (fr_row σ 28 f) := h
      obtain ⟨k, hk⟩ := re_some (n := n) (m := m) (by omega)
      have h28 : ∀ c, c < n → m.testBit c = false → (fr_row σ 28 f) 28 (m ||| 2 ^ c) = nI (v_b C n (m ||| 2 ^ c)).1 := fun c hcn hb => by
        rw [fr_row_self]
        have := mk_gt m (by omega) c (by omega) hb
        exact hf _ (by omega) (Nat.or_lt_two_pow (by omega) (Nat.pow_lt_pow_right (by decide) hcn))
      obtain ⟨b, eb, hb, hbf, ev, _⟩ := x_best hn hC (show m < 2 ^ n by omega) hk hc h28
      show ∃ b', zX6_plan_L20 (nI m) (fr_row σ 28 f) = _ ∧ _
      unfold zX6_plan_L20
      rw [if_neg (nI_pos (by omega)), x_spent hn (by omega) hc, Option.bind_some, eb, Option.bind_some, x_lw hn hC (by omega) hb hc (h28 b hb hbf), Option.bind_some, fr_as_nI (show m < 128 by omega) (by decide), Option.bind_some, fr_put_row]
      refine ⟨_, rfl, _, by rw [Int32.sub_eq_add_neg], fun j a b' => ?_⟩
      rw [upd_at]
      by_cases e : j = m
      · rw [if_pos e, e, ev]
      · rw [if_neg e]; exact hf j (by omega) b')
    (fun b hI => by
      obtain ⟨f, rfl, hf⟩ := hI
      rw [Nat.sub_self] at hf ⊢
      refine ⟨_, ?_, f, rfl, fun m hm => hf m (by omega) hm⟩
      show zX6_plan_L20 (nI 0 - 1) _ = _
      unfold zX6_plan_L20
      rw [if_pos nI_00])
    0 (nI (2 ^ n - 1) - 1, σ) (by omega) ⟨σ 28, by rw [fr_row_id, Nat.sub_zero], fun m a b => by
      have : m = 2 ^ n - 1 := by omega
      rw [this, vb_full, h0]
      rfl⟩
  exact ⟨f, hz, hf⟩
theorem x_plan2 {C : Nat → Nat} {n : Nat} {σ : fr_St} (hn : n ≤ 7) (hC : ∀ j, j < 14 → C j ≤ 9999) (h : car_ok C n σ) (h28 : ∀ m, m < 2 ^ n → σ 28 m = nI (v_b C n m).1) :
    ∃ f : Nat → Int32, fr_loop (fun (b8 : Int32 × Int32 × fr_St) => zX6_plan_L58 b8.1 b8.2.1 b8.2.2) fr_fu (0, 0, σ) = some (fr_row σ 27 f) ∧ ∀ i, i < n → f i = nI ((v_b C n 0).2.getD i 0) := by
  have h128 := pw_7 n hn
  have hp0 := pw_0 n
  obtain ⟨z, hz, f, rfl, hf⟩ := lp_fu (body := fun (b8 : Int32 × Int32 × fr_St) => zX6_plan_L58 b8.1 b8.2.1 b8.2.2)
    (fun i b => ∃ (m : Nat) (f : Nat → Int32), b = (nI m, nI i, fr_row σ 27 f) ∧ m < 2 ^ n ∧ (re_m n m).length = n - i ∧ (∀ j, j < i → f j = nI ((v_b C n 0).2.getD j 0)) ∧ ∀ j, (v_b C n 0).2.getD (i + j) 0 = (v_b C n m).2.getD j 0)
    (fun z => ∃ f : Nat → Int32, z = fr_row σ 27 f ∧ ∀ i, i < n → f i = nI ((v_b C n 0).2.getD i 0)) n (by omega)
    (fun i b hi hI => by
      obtain ⟨m, f, rfl, hm, hl, hf, ht⟩ := hI
      left
      have hc : car_ok C n (fr_row σ 27 f) := h
      obtain ⟨b, eb, hb, hbf, ev, hl'⟩ := x_best (k := n - i - 1) hn hC hm (by omega) hc (fun c hcn _ => by
        rw [fr_row_ne (by decide)]
        exact h28 _ (Nat.or_lt_two_pow hm (Nat.pow_lt_pow_right (by decide) hcn)))
      show ∃ b', zX6_plan_L58 (nI m) (nI i) (fr_row σ 27 f) = _ ∧ _
      unfold zX6_plan_L58
      rw [hc.1, if_neg (nI_ge hi (by omega)), x_spent hn (by omega) hc, Option.bind_some, eb, Option.bind_some, fr_as_nI (show i < 7 by omega) (by decide), Option.bind_some, fr_al_nI (show i < 7 by omega) (by decide), Option.bind_some, fr_put_row, fr_row_self, show upd f i (nI b) i = nI b by rw [upd_at, if_pos rfl], mk_or m (by omega) b (by omega), nI_1]
      refine ⟨_, rfl, _, _, rfl, Nat.or_lt_two_pow hm (Nat.pow_lt_pow_right (by decide) hb), by omega, fun j hj => ?_, fun j => ?_⟩
      · rw [upd_at]
        by_cases e : j = i
        · have := ht 0
          rw [Nat.add_zero, ev] at this
          rw [if_pos e, e, this]
          rfl
        · rw [if_neg e]; exact hf j (by omega)
      · have := ht (j + 1)
        rw [ev] at this
        rw [show i + 1 + j = i + (j + 1) by omega, this]
        rfl)
    (fun b hI => by
      obtain ⟨m, f, rfl, hm, hl, hf, ht⟩ := hI
      refine ⟨_, ?_, f, rfl, hf⟩
      show zX6_plan_L58 (nI m) (nI n) (fr_row σ 27 f) = _
      unfold zX6_plan_L58
      rw [show (fr_row σ 27 f) 24 4 = nI n from h.1, if_pos (nI_le (Nat.le_refl _) (by omega))])
    0 (0, 0, σ) (by omega) ⟨0, σ 27, by rw [fr_row_id]; rfl, hp0, by
      unfold re_m
      rw [List.filter_eq_self.mpr (fun a _ => by simp), List.length_range, Nat.sub_zero], fun j hj => by omega, fun j => by rw [Nat.zero_add]⟩
  exact ⟨f, hz, hf⟩
theorem x_plan {C : Nat → Nat} {n : Nat} {σ : fr_St} (hn : n ≤ 7) (hC : ∀ j, j < 14 → C j ≤ 9999) (h : car_ok C n σ) : ∃ σ', zX6_plan σ = some σ' ∧ stx C n σ' ∧ ∀ q, q ≠ 27 → q ≠ 28 → σ' q = σ q := by
  have h128 := pw_7 n hn
  have hp0 := pw_0 n
  have hc1 : car_ok C n (fr_put σ 28 (2 ^ n - 1) 0) := h
  obtain ⟨f, ef, hf⟩ := x_plan1 (σ := fr_put σ 28 (2 ^ n - 1) 0) hn hC hc1 (by rw [fr_put_at, if_pos rfl, upd_at, if_pos rfl])
  have hc2 : car_ok C n (fr_row (fr_put σ 28 (2 ^ n - 1) 0) 28 f) := h
  obtain ⟨g, eg, hg⟩ := x_plan2 (σ := fr_row (fr_put σ 28 (2 ^ n - 1) 0) 28 f) hn hC hc2 (fun m hm => by rw [fr_row_self]; exact hf m hm)
  unfold zX6_plan
  rw [h.1, mk_full n hn, fr_as_nI (show 2 ^ n - 1 < 128 by omega) (by decide), Option.bind_some, ef, Option.bind_some, eg, Option.bind_some]
  refine ⟨_, rfl, ⟨?_, fun i hi => ?_⟩, fun q a b => ?_⟩
  · rw [fr_row_ne (by decide), fr_row_self, hf 0 hp0, vb_0]
  · rw [fr_row_self, hg i hi, vb_0]
  · rw [fr_row_ne a, fr_row_ne b, fr_put_at, if_neg b]
