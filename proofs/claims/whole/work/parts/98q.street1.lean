/-! the street, in numbers: the best row is the first of the least among all rows, told by their codes -/
theorem st_pick_spec {f : Nat → Nat × List Nat} : ∀ {R : List Nat}, R ≠ [] → ∃ d, d < R.length ∧ st_pick f R = some (f (R.getD d 0)) ∧ (∀ e, e < R.length → (f (R.getD d 0)).1 ≤ (f (R.getD e 0)).1) ∧ ∀ e, e < d → (f (R.getD d 0)).1 < (f (R.getD e 0)).1
  | [], h => absurd rfl h
  | [c], _ => ⟨0, Nat.succ_pos _, rfl, fun e he => by
      have : e = 0 := by simp at he; omega
      subst this; exact Nat.le_refl _, fun e he => by omega⟩
  | c :: c2 :: r, _ => by
    obtain ⟨d, hd, e, h1, h2⟩ := st_pick_spec (f := f) (R := c2 :: r) (by simp)
    have es : st_pick f (c :: c2 :: r) = if (f ((c2 :: r).getD d 0)).1 < (f c).1 then some (f ((c2 :: r).getD d 0)) else some (f c) := by
      show (match st_pick f (c2 :: r) with
        | none => some (f c)
        | some b => if b.1 < (f c).1 then some b else some (f c)) = _
      rw [e]
    rw [es]
    by_cases hc : (f ((c2 :: r).getD d 0)).1 < (f c).1
    · rw [if_pos hc]
      refine ⟨d + 1, Nat.succ_lt_succ hd, rfl, fun e he => ?_, fun e he => ?_⟩
      · cases e with
        | zero => exact Nat.le_of_lt hc
        | succ e => exact h1 e (Nat.lt_of_succ_lt_succ he)
      · cases e with
        | zero => exact hc
        | succ e => exact h2 e (by omega)
    · rw [if_neg hc]
      refine ⟨0, Nat.succ_pos _, rfl, fun e he => ?_, fun e he => by omega⟩
      cases e with
      | zero => exact Nat.le_refl _
      | succ e =>
        have := h1 e (Nat.lt_of_succ_lt_succ he)
        show (f c).1 ≤ (f ((c2 :: r).getD e 0)).1
        omega
theorem st_pick_app {f : Nat → Nat × List Nat} {c : Nat} : ∀ (l : List Nat), st_pick f (l ++ [c]) = match st_pick f l with
    | none => some (f c)
    | some b => if (f c).1 < b.1 then some (f c) else some b
  | [] => rfl
  | a :: l => by
    have ih := st_pick_app (f := f) (c := c) l
    show (match st_pick f (l ++ [c]) with
        | none => some (f a)
        | some b => if b.1 < (f a).1 then some b else some (f a)) = (match (match st_pick f l with
        | none => some (f a)
        | some b => if b.1 < (f a).1 then some b else some (f a)) with
      | none => some (f c)
      | some b => if (f c).1 < b.1 then some (f c) else some b)
    rw [ih]
    cases st_pick f l with
    | none => rfl
    | some b =>
      dsimp only
      by_cases h1 : (f c).1 < b.1
      · rw [if_pos h1]
        by_cases h2 : b.1 < (f a).1
        · rw [if_pos h2]
          dsimp only
          rw [if_pos h1, if_pos (by omega)]
        · rw [if_neg h2]
      · rw [if_neg h1]
        by_cases h2 : b.1 < (f a).1
        · rw [if_pos h2]
          dsimp only
          rw [if_neg h1, if_pos h2]
        · rw [if_neg h2]
          dsimp only
          rw [if_neg h2, if_neg (by omega)]
theorem st_pick_pk {f : Nat → Nat × List Nat} {can : Nat → Bool} : ∀ n, st_pick f ((List.range n).filter can) = (pk_b can (fun a b => decide ((f a).1 < (f b).1)) n).map f
  | 0 => rfl
  | n + 1 => by
    have ih := st_pick_pk (f := f) (can := can) n
    rw [List.range_succ, List.filter_append]
    unfold pk_b
    by_cases hc : can n = true
    · rw [show List.filter can [n] = [n] by simp [hc], st_pick_app, ih, if_pos hc]
      cases pk_b can (fun a b => decide ((f a).1 < (f b).1)) n with
      | none => rfl
      | some b =>
        show (if (f n).1 < (f b).1 then some (f n) else some (f b)) = _
        dsimp only
        by_cases h : (f n).1 < (f b).1
        · rw [if_pos h, if_pos (decide_eq_true h)]; rfl
        · rw [if_neg h, if_neg (by simp [h])]; rfl
    · rw [show List.filter can [n] = [] by simp [hc], List.append_nil, ih, if_neg hc]
/-- as many codes as rows -/
def fc : Nat → Nat
  | 0 => 1
  | n + 1 => (n + 1) * fc n
theorem fc_pos : ∀ n, 0 < fc n
  | 0 => Nat.succ_pos _
  | n + 1 => Nat.mul_pos (Nat.succ_pos _) (fc_pos n)
def sk_p (d v : Nat) : Nat := if d ≤ v then v + 1 else v
/-- the row of a code -/
def le_p : Nat → Nat → List Nat
  | 0, _ => []
  | m + 1, x => (x / fc m) :: (le_p m (x % fc m)).map (sk_p (x / fc m))
theorem le_p_len : ∀ m x, (le_p m x).length = m
  | 0, _ => rfl
  | m + 1, x => by
    unfold le_p
    rw [List.length_cons, List.length_map, le_p_len m]
theorem le_p_lt : ∀ {m x : Nat}, x < fc m → ∀ v ∈ le_p m x, v < m
  | 0, _, _, v, hv => by simp [le_p] at hv
  | m + 1, x, hx, v, hv => by
    have hd : x / fc m < m + 1 := (Nat.div_lt_iff_lt_mul (fc_pos m)).mpr hx
    unfold le_p at hv
    rcases List.mem_cons.mp hv with e | e
    · omega
    · obtain ⟨u, hu, rfl⟩ := List.mem_map.mp e
      have := le_p_lt (Nat.mod_lt x (fc_pos m)) u hu
      unfold sk_p
      split <;> omega
/-- how late all are together in a row -/
def rw_l (C : Nat → Nat) : Nat → List Nat → Nat
  | _, [] => 0
  | t, c :: r => st_late C c t + rw_l C (t + C (2 * c)) r
theorem er_at : ∀ {R : List Nat} {d : Nat}, R.Nodup → d < R.length → ∀ v, (R.erase (R.getD d 0)).getD v 0 = R.getD (sk_p d v) 0
  | [], d, _, hd, v => absurd hd (Nat.not_lt_zero _)
  | a :: r, 0, _, _, v => by
    show ((a :: r).erase a).getD v 0 = _
    rw [List.erase_cons_head]
    rfl
  | a :: r, d + 1, hn, hd, v => by
    have hd' : d < r.length := Nat.lt_of_succ_lt_succ hd
    have hna : a ∉ r := (List.nodup_cons.mp hn).1
    have hne : ¬ a = r.getD d 0 := fun e => hna (by
      rw [e, List.getD_eq_getElem?_getD, List.getElem?_eq_getElem hd']
      exact List.getElem_mem hd')
    show ((a :: r).erase (r.getD d 0)).getD v 0 = _
    rw [List.erase_cons_tail (by simpa using hne)]
    cases v with
    | zero => rfl
    | succ v =>
      show (r.erase (r.getD d 0)).getD v 0 = _
      rw [er_at (List.nodup_cons.mp hn).2 hd' v]
      unfold sk_p
      by_cases e : d ≤ v
      · rw [if_pos e, if_pos (by omega)]; rfl
      · rw [if_neg e, if_neg (by omega)]; rfl
def rof (R : List Nat) (l : List Nat) : List Nat := l.map (fun v => R.getD v 0)
theorem rof_er {R : List Nat} {d : Nat} (hn : R.Nodup) (hd : d < R.length) (l : List Nat) : rof (R.erase (R.getD d 0)) l = rof R (l.map (sk_p d)) := by
  unfold rof
  rw [List.map_map]
  exact List.map_congr_left (fun v _ => er_at hn hd v)
/-- x is the first of the least of F below N -/
def fmin (F : Nat → Nat) (N x : Nat) : Prop := x < N ∧ (∀ y, y < N → F x ≤ F y) ∧ ∀ y, y < x → F x < F y
theorem fmin_u {F : Nat → Nat} {N x y : Nat} (h : fmin F N x) (k : fmin F N y) : x = y := by
  rcases Nat.lt_trichotomy x y with a | a | a
  · have := k.2.2 x a; have := h.2.1 y k.1; omega
  · exact a
  · have := h.2.2 y a; have := k.2.1 x h.1; omega
theorem st_best_min {C : Nat → Nat} : ∀ {m : Nat} {R : List Nat} {t : Nat}, R.Nodup → R.length = m → ∃ x, fmin (fun y => rw_l C t (rof R (le_p m y))) (fc m) x ∧ st_best C m R t = (rw_l C t (rof R (le_p m x)), rof R (le_p m x))
  | 0, R, t, _, _ => ⟨0, ⟨Nat.succ_pos _, fun y _ => Nat.le_refl _, fun y hy => by omega⟩, rfl⟩
  | m + 1, R, t, hn, hl => by
    have hne : R ≠ [] := by rintro rfl; simp at hl
    obtain ⟨d, hd, e, h1, h2⟩ := st_pick_spec (f := fun c => (st_late C c t + (st_best C m (R.erase c) (t + C (2 * c))).1, c :: (st_best C m (R.erase c) (t + C (2 * c))).2)) hne
    dsimp only at h1 h2
    have ih := fun (d : Nat) (hd : d < R.length) => st_best_min (C := C) (m := m) (R := R.erase (R.getD d 0)) (t := t + C (2 * R.getD d 0)) (hn.erase _) (by
      rw [List.length_erase_of_mem (by rw [List.getD_eq_getElem?_getD, List.getElem?_eq_getElem hd]; exact List.getElem_mem hd), hl]; rfl)
    have hF : ∀ y, rw_l C t (rof R (le_p (m + 1) y)) = if y / fc m < R.length then st_late C (R.getD (y / fc m) 0) t + rw_l C (t + C (2 * R.getD (y / fc m) 0)) (rof (R.erase (R.getD (y / fc m) 0)) (le_p m (y % fc m))) else rw_l C t (rof R (le_p (m + 1) y)) := fun y => by
      by_cases h : y / fc m < R.length
      · rw [if_pos h, rof_er hn h]; rfl
      · rw [if_neg h]
    have hq : ∀ y, y < fc (m + 1) → y / fc m < R.length := fun y hy => by
      rw [hl]; exact (Nat.div_lt_iff_lt_mul (fc_pos m)).mpr hy
    obtain ⟨x', hx', ex'⟩ := ih d hd
    have hdm : (d * fc m + x') / fc m = d := by
      rw [Nat.add_comm, Nat.add_mul_div_right _ _ (fc_pos m), Nat.div_eq_of_lt hx'.1, Nat.zero_add]
    have hmm : (d * fc m + x') % fc m = x' := by
      rw [Nat.add_comm, Nat.add_mul_mod_self_right, Nat.mod_eq_of_lt hx'.1]
    have hlow : ∀ y, y < fc (m + 1) → st_late C (R.getD (y / fc m) 0) t + (st_best C m (R.erase (R.getD (y / fc m) 0)) (t + C (2 * R.getD (y / fc m) 0))).1 ≤ rw_l C t (rof R (le_p (m + 1) y)) := fun y hy => by
      obtain ⟨z, hz, ez⟩ := ih (y / fc m) (hq y hy)
      rw [hF y, if_pos (hq y hy), ez]
      exact Nat.add_le_add_left (hz.2.1 _ (Nat.mod_lt y (fc_pos m))) _
    have hxx : rw_l C t (rof R (le_p (m + 1) (d * fc m + x'))) = st_late C (R.getD d 0) t + (st_best C m (R.erase (R.getD d 0)) (t + C (2 * R.getD d 0))).1 := by
      rw [hF, hdm, hmm, if_pos hd, ex']
    refine ⟨d * fc m + x', ⟨?_, fun y hy => ?_, fun y hy => ?_⟩, ?_⟩
    · show d * fc m + x' < (m + 1) * fc m
      have : (d + 1) * fc m ≤ (m + 1) * fc m := Nat.mul_le_mul_right _ (by omega)
      rw [Nat.succ_mul] at this
      have := hx'.1
      omega
    · show rw_l C t (rof R (le_p (m + 1) (d * fc m + x'))) ≤ _
      rw [hxx]
      exact Nat.le_trans (h1 _ (hq y hy)) (hlow y hy)
    · show rw_l C t (rof R (le_p (m + 1) (d * fc m + x'))) < rw_l C t (rof R (le_p (m + 1) y))
      have hyd : y / fc m ≤ d := by
        have := Nat.div_le_div_right (c := fc m) (Nat.le_of_lt hy)
        rw [hdm] at this
        exact this
      have hyl : y / fc m < R.length := by omega
      by_cases ed : y / fc m = d
      · rw [hF y, if_pos hyl, hF, hdm, hmm, if_pos hd, ed]
        have hy' : y % fc m < x' := by
          have := Nat.div_add_mod y (fc m)
          rw [ed, Nat.mul_comm] at this
          omega
        exact Nat.add_lt_add_left (hx'.2.2 _ hy') _
      · have hyf : y < fc (m + 1) := by
          show y < (m + 1) * fc m
          have : (d + 1) * fc m ≤ (m + 1) * fc m := Nat.mul_le_mul_right _ (by omega)
          rw [Nat.succ_mul] at this
          have := hx'.1
          omega
        rw [hxx]
        exact Nat.lt_of_lt_of_le (h2 _ (by omega)) (hlow y hyf)
    · show (st_pick (fun c => (st_late C c t + (st_best C m (R.erase c) (t + C (2 * c))).1, c :: (st_best C m (R.erase c) (t + C (2 * c))).2)) R).getD (0, []) = _
      rw [e]
      show (st_late C (R.getD d 0) t + (st_best C m (R.erase (R.getD d 0)) (t + C (2 * R.getD d 0))).1, R.getD d 0 :: (st_best C m (R.erase (R.getD d 0)) (t + C (2 * R.getD d 0))).2) = _
      rw [hxx]
      congr 1
      rw [ex']
      show R.getD d 0 :: rof (R.erase (R.getD d 0)) (le_p m x') = rof R (((d * fc m + x') / fc m) :: (le_p m ((d * fc m + x') % fc m)).map (sk_p ((d * fc m + x') / fc m)))
      rw [hdm, hmm, rof_er hn hd]
      rfl
theorem rof_id {n : Nat} {l : List Nat} (h : ∀ v ∈ l, v < n) : rof (List.range n) l = l := by
  unfold rof
  have : l.map (fun v => (List.range n).getD v 0) = l.map id := List.map_congr_left (fun v hv => by
    rw [List.getD_eq_getElem?_getD, List.getElem?_range (h v hv)]
    rfl)
  rw [this, List.map_id]
/-- the street's best row is the first of the least -/
theorem st_b_min {C : Nat → Nat} {n : Nat} : ∃ x, fmin (fun y => rw_l C 0 (le_p n y)) (fc n) x ∧ st_b C n = (rw_l C 0 (le_p n x), le_p n x) := by
  obtain ⟨x, h, e⟩ := st_best_min (C := C) (m := n) (R := List.range n) (t := 0) List.nodup_range List.length_range
  have hr : ∀ y, y < fc n → rof (List.range n) (le_p n y) = le_p n y := fun y hy => rof_id (le_p_lt hy)
  refine ⟨x, ⟨h.1, fun y hy => ?_, fun y hy => ?_⟩, ?_⟩
  · have := h.2.1 y hy
    dsimp only at this ⊢
    rw [hr x h.1, hr y hy] at this
    exact this
  · have := h.2.2 y hy
    dsimp only at this ⊢
    rw [hr x h.1, hr y (by have := h.1; omega)] at this
    exact this
  · unfold st_b
    rw [e, hr x h.1]
