/-! state: the risk behind k strokes, by the reference -/
theorem su_one {f : Nat → Nat} {p : Nat} : ∀ {n : Nat}, p < n → su (fun k => (if p = k then 1 else 0) * f k) n = f p
  | 0, h => by omega
  | n + 1, h => by
    show su (fun k => (if p = k then 1 else 0) * f k) n + (if p = n then 1 else 0) * f n = f p
    by_cases e : p = n
    · have hz : su (fun k => (if p = k then 1 else 0) * f k) n = su (fun _ => 0) n := su_congr (fun i hi => by rw [if_neg (by omega), Nat.zero_mul])
      rw [hz, su_z, if_pos e, Nat.one_mul, Nat.zero_add, e]
    · rw [su_one (by omega), if_neg e, Nat.zero_mul, Nat.add_zero]
theorem rd_sum {T lk kd : Nat → Nat} {n c : Nat} (hkd : ∀ j, j < rd_n T n → kd j < 5 ∧ rd_k (T j) = some (kd j)) : su (fun j => lk (32 * kd j + c)) (rd_n T n) = mo_h T n lk c := by
  unfold mo_h rd_m
  have h1 : su (fun j => lk (32 * kd j + c)) (rd_n T n) = su (fun j => su (fun k => (if kd j = k then 1 else 0) * lk (32 * k + c)) 5) (rd_n T n) := su_congr (fun j hj => (su_one (f := fun k => lk (32 * k + c)) (hkd j hj).1).symm)
  rw [h1, su_swap]
  refine su_congr (fun k _ => ?_)
  rw [su_mul]
  congr 1
  refine su_congr (fun j hj => ?_)
  rw [(hkd j hj).2]
  by_cases e : kd j = k
  · rw [if_pos e, if_pos (by rw [e])]
  · rw [if_neg e, if_neg (fun h => e (Option.some.inj h))]
theorem rd_tot {T lk th kd : Nat → Nat} {n : Nat} (hkd : ∀ j, j < rd_n T n → kd j < 5 ∧ rd_k (T j) = some (kd j)) : su (fun j => mo_k lk th (kd j)) (rd_n T n) = su (fun c => if 0 < th c then mo_h T n lk c else 0) 32 := by
  unfold mo_k
  rw [su_swap]
  refine su_congr (fun c _ => ?_)
  by_cases e : 0 < th c
  · simp only [if_pos e]
    exact rd_sum hkd
  · simp only [if_neg e]
    exact su_z _
