/-! bits of a mask; bt, b_ext, b_or, b_and, b_0, s_l, b_shl, b_sshr began as rows of kit/laws/BITS.to-paste -/
def bt (x : Int32) (i : Nat) : Bool := x.toBitVec.getLsbD i
theorem b_ext {x y : Int32} (h : ∀ i, i < 32 → bt x i = bt y i) : x = y := Int32.toBitVec_inj.mp (BitVec.eq_of_getLsbD_eq (fun i hi => h i hi))
theorem b_or (x y : Int32) (i : Nat) : bt (x ||| y) i = (bt x i || bt y i) := by unfold bt; rw [Int32.toBitVec_or, BitVec.getLsbD_or]
theorem b_and (x y : Int32) (i : Nat) : bt (x &&& y) i = (bt x i && bt y i) := by unfold bt; rw [Int32.toBitVec_and, BitVec.getLsbD_and]
theorem b_0 (i : Nat) : bt 0 i = false := BitVec.getLsbD_zero
theorem s_l : ∀ n, n < 32 → ((nI n &&& 31).toBitVec.smod 32).toNat = n := by decide +kernel
theorem b_shl (n : Nat) (hn : n < 32) (x : Int32) {i : Nat} (hi : i < 32) : bt (x <<< (nI n &&& 31)) i = (decide (n ≤ i) && bt x (i - n)) := by
  unfold bt
  rw [Int32.toBitVec_shiftLeft]
  show (x.toBitVec <<< ((nI n &&& 31).toBitVec.smod 32).toNat).getLsbD i = _
  rw [s_l n hn, BitVec.getLsbD_shiftLeft]
  rcases Nat.lt_or_ge i n with h | h
  · simp [h, Nat.not_le.mpr h]
  · simp [hi, h, Nat.not_lt.mpr h]
theorem b_sshr (n : Nat) (hn : n < 32) (x : Int32) {i : Nat} (hi : i < 32) : bt (x >>> (nI n &&& 31)) i = if n + i < 32 then bt x (n + i) else bt x 31 := by
  unfold bt
  rw [Int32.toBitVec_shiftRight]
  show (x.toBitVec.sshiftRight ((nI n &&& 31).toBitVec.smod 32).toNat).getLsbD i = _
  rw [s_l n hn, BitVec.getLsbD_sshiftRight, BitVec.msb_eq_getLsbD_last]
  simp [hi]
theorem b_1 : ∀ i, i < 32 → bt 1 i = decide (i = 0) := by decide +kernel
/-- a mask that holds just the cells of B -/
def hs (m : Int32) (B : Nat → Bool) : Prop := ∀ c, c < 32 → bt m c = B c
theorem hs_0 : hs 0 (fun _ => false) := fun c _ => b_0 c
theorem hs_in {m : Int32} {B : Nat → Bool} (h : hs m B) {c : Nat} (hc : c < 32) : zX10_isIn m (nI c) = if B c then 1 else 0 := by
  have e : (m >>> (nI c &&& 31)) &&& 1 = if B c then 1 else 0 := by
    apply b_ext
    intro i hi
    rw [b_and, b_sshr c hc m hi, b_1 i hi]
    cases i with
    | zero =>
      rw [Nat.add_zero, if_pos hc, h c hc]
      cases B c
      · simp [b_0]
      · simp [b_1]
    | succ i =>
      cases B c
      · simp [b_0]
      · simp [b_1 (i + 1) hi]
  unfold zX10_isIn
  rw [e]
  cases B c
  · rfl
  · rfl
theorem hs_or {m : Int32} {B : Nat → Bool} (h : hs m B) {d : Nat} (hd : d < 32) : hs (m ||| (1 <<< (nI d &&& 31))) (fun c => decide (c = d) || B c) := by
  intro c hc
  rw [b_or, b_shl d hd 1 hc, h c hc, b_1 (c - d) (by omega)]
  by_cases e : c = d
  · subst e; simp
  · by_cases e2 : d ≤ c
    · simp [e, show ¬ c - d = 0 by omega]
    · simp [e, e2]
/-! the best of the cells that may be taken, the first of those that are alike -/
def pk_b (can : Nat → Bool) (bet : Nat → Nat → Bool) : Nat → Option Nat
  | 0 => none
  | i + 1 => if can i = true then (match pk_b can bet i with
    | none => some i
    | some b => if bet i b = true then some i else some b) else pk_b can bet i
theorem pk_can {can : Nat → Bool} {bet : Nat → Nat → Bool} : ∀ {n b : Nat}, pk_b can bet n = some b → b < n ∧ can b = true
  | 0, b, h => by simp [pk_b] at h
  | n + 1, b, h => by
    unfold pk_b at h
    by_cases hc : can n = true
    · rw [if_pos hc] at h
      cases e : pk_b can bet n with
      | none =>
        rw [e] at h
        have : n = b := by simpa using h
        subst this
        exact ⟨by omega, hc⟩
      | some b' =>
        rw [e] at h
        have ih := pk_can e
        by_cases hb : bet n b' = true
        · have : n = b := by simpa [hb] using h
          subst this
          exact ⟨by omega, hc⟩
        · have : b' = b := by simpa [hb] using h
          subst this
          exact ⟨by omega, ih.2⟩
    · rw [if_neg hc] at h
      have := pk_can h
      exact ⟨by omega, this.2⟩
theorem pk_spec {can : Nat → Bool} {bet : Nat → Nat → Bool} (hA : ∀ x y, can x = true → can y = true → bet x y = true → bet y x = false) (hT : ∀ c x y, can c = true → can x = true → can y = true → bet c x = true → bet y x = false → bet c y = true) :
    ∀ n, (pk_b can bet n = none ∧ ∀ c, c < n → can c = false) ∨ ∃ b, pk_b can bet n = some b ∧ b < n ∧ can b = true ∧ (∀ c, c < n → can c = true → bet c b = false) ∧ ∀ c, c < b → can c = true → bet b c = true
  | 0 => Or.inl ⟨rfl, fun c h => by omega⟩
  | n + 1 => by
    have ir : ∀ x, can x = true → bet x x = false := fun x hx => by
      cases e : bet x x with
      | false => rfl
      | true => exact e.symm.trans (hA x x hx hx e)
    unfold pk_b
    by_cases hc : can n = true
    · rw [if_pos hc]
      right
      rcases pk_spec hA hT n with ⟨e, h⟩ | ⟨b, e, hb, hcb, h1, h2⟩
      · rw [e]
        refine ⟨n, rfl, by omega, hc, fun c a k => ?_, fun c a k => ?_⟩
        · by_cases ec : c = n
          · rw [ec]; exact ir n hc
          · rw [h c (by omega)] at k; simp at k
        · rw [h c a] at k; simp at k
      · rw [e]
        dsimp only
        by_cases hq : bet n b = true
        · rw [if_pos hq]
          refine ⟨n, rfl, by omega, hc, fun c a k => ?_, fun c a k => ?_⟩
          · by_cases ec : c = n
            · rw [ec]; exact ir n hc
            · cases x : bet c n with
              | false => rfl
              | true =>
                have := hT c n b k hc hcb x (hA n b hc hcb hq)
                rw [h1 c (by omega) k] at this
                simp at this
          · exact hT n b c hc hcb k hq (h1 c a k)
        · rw [if_neg hq]
          refine ⟨b, rfl, by omega, hcb, fun c a k => ?_, h2⟩
          by_cases ec : c = n
          · rw [ec]; simpa using hq
          · exact h1 c (by omega) k
    · rw [if_neg hc]
      have hc' : can n = false := by simpa using hc
      rcases pk_spec hA hT n with ⟨e, h⟩ | ⟨b, e, hb, hcb, h1, h2⟩
      · exact Or.inl ⟨e, fun c a => by
          by_cases ec : c = n
          · rw [ec]; exact hc'
          · exact h c (by omega)⟩
      · exact Or.inr ⟨b, e, by omega, hcb, fun c a k => by
          by_cases ec : c = n
          · rw [ec, hc'] at k; simp at k
          · exact h1 c (by omega) k, h2⟩
