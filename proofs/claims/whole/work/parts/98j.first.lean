/-! what the reference finds first -/
theorem sel_eq {h th : Nat → Nat} {a b s : Nat} (s0 : 0 < s) : (h a * (th b * s) ≤ h b * (th a * s)) ↔ ¬ mo_q h th a b = true := by
  unfold mo_q
  rw [← Nat.mul_assoc, ← Nat.mul_assoc, Nat.mul_le_mul_right_iff s0]
  simp
theorem m_fsel {h th : Nat → Nat} {B : Nat → Bool} {σ : fr_St} {t s : Nat} {k2 k3 : Int32} (ht : t < 4) (s0 : 0 < s) (s60 : s ≤ 60) (h9 : ∀ c, th c ≤ 9) (hh : ∀ c, c < 32 → h c ≤ 1800) (h17 : ∀ c, c < 32 → σ 17 c = nI (if 0 < th c then h c else 0)) (hw : ∀ c, c < 32 → σ 9 c = nI (th c)) (h11 : σ 11 t = nI s) (hB : hs k3 B) :
    fr_loop (fun (b1 : Int32 × Int32) => zX10_findFirst_L22 σ (nI t) k2 k3 b1.1 b1.2) fr_fu ((-1), 0) = some (oI (pk_b (fun c => decide (0 < th c ∧ 0 < h c) && !B c) (mo_q h th) 32)) := by
  refine lp_seq (body := fun (b1 : Int32 × Int32) => zX10_findFirst_L22 σ (nI t) k2 k3 b1.1 b1.2) (fun i => (oI (pk_b (fun c => decide (0 < th c ∧ 0 < h c) && !B c) (mo_q h th) i), nI i)) 32 _ (by omega) (fun i hi => ?_) (by
      show zX10_findFirst_L22 σ (nI t) k2 k3 _ (nI 32) = _
      unfold zX10_findFirst_L22
      rw [if_pos (by decide)]) 0 (by omega)
  show zX10_findFirst_L22 σ (nI t) k2 k3 (oI (pk_b (fun c => decide (0 < th c ∧ 0 < h c) && !B c) (mo_q h th) i)) (nI i) = some (.inl (oI (if (decide (0 < th i ∧ 0 < h i) && !B i) = true then (match pk_b (fun c => decide (0 < th c ∧ 0 < h c) && !B c) (mo_q h th) i with
    | none => some i
    | some b => if mo_q h th i b = true then some i else some b) else pk_b (fun c => decide (0 < th c ∧ 0 < h c) && !B c) (mo_q h th) i), nI (i + 1)))
  have hc := fun b => pk_can (can := fun c => decide (0 < th c ∧ 0 < h c) && !B c) (bet := mo_q h th) (n := i) (b := b)
  generalize pk_b (fun c => decide (0 < th c ∧ 0 < h c) && !B c) (mo_q h th) i = z at *
  unfold zX10_findFirst_L22
  have hPi : (if 0 < th i then h i else 0) ≤ 1800 := by have := hh i hi; split <;> omega
  rw [if_neg (show ¬ 32 ≤ nI i from nI_ge (b := 32) hi (by decide)), fr_al_nI hi (by decide), Option.bind_some, h17 i hi, nI_1]
  by_cases hp : 0 < th i ∧ 0 < h i
  · rw [if_pos hp.1, if_neg (nI_nle hp.2 (by have := hh i hi; omega)), hs_in hB hi, Option.bind_some]
    cases z with
    | none =>
      rw [if_pos (show oI none = -1 from rfl)]
      cases hBi : B i with
      | true =>
        rw [if_neg (show ¬ (decide (0 < th i ∧ 0 < h i) && !true) = true by simp)]
        rfl
      | false =>
        rw [if_pos (show (decide (0 < th i ∧ 0 < h i) && !false) = true by simp [hp])]
        rfl
    | some b =>
      have hb := hc b rfl
      have hbk : (0 < th b ∧ 0 < h b) ∧ B b = false := by simpa using hb.2
      have hb32 : b < 32 := by omega
      rw [show oI (some b) = nI b from rfl, if_neg (nI_m1 (show b < 2 ^ 31 by omega)), fr_al_nI hb32 (by decide), fr_al_nI ht (by decide), fr_al_nI hb32 (by decide), fr_al_nI hi (by decide), h17 b hb32, if_pos hbk.1.1, hw b hb32, hw i hi, h11]
      simp only [Option.bind_some, pk_mul]
      have m1 : h i * (th b * s) ≤ 1800 * (9 * 60) := Nat.mul_le_mul (hh i hi) (Nat.mul_le_mul (h9 b) s60)
      have m2 : h b * (th i * s) ≤ 1800 * (9 * 60) := Nat.mul_le_mul (hh b hb32) (Nat.mul_le_mul (h9 i) s60)
      cases hBi : B i with
      | true =>
        rw [if_neg (show ¬ (decide (0 < th i ∧ 0 < h i) && !true) = true by simp)]
        rfl
      | false =>
        rw [if_pos (show (decide (0 < th i ∧ 0 < h i) && !false) = true by simp [hp])]
        by_cases hq : mo_q h th i b = true
        · rw [if_neg (show ¬ nI (h i * (th b * s)) ≤ nI (h b * (th i * s)) by rw [nI_leI (by omega) (by omega), sel_eq s0]; exact fun k => k hq)]
          simp only [hq]
          rfl
        · rw [if_pos (show nI (h i * (th b * s)) ≤ nI (h b * (th i * s)) by rw [nI_leI (by omega) (by omega), sel_eq s0]; exact hq)]
          simp only [hq]
          rfl
  · have hz : (if 0 < th i then h i else 0) = 0 := by
      by_cases t0 : 0 < th i
      · rw [if_pos t0]; omega
      · rw [if_neg t0]
    rw [hz, if_pos (show nI 0 ≤ 0 by decide), if_neg (show ¬ (decide (0 < th i ∧ 0 < h i) && !B i) = true by simp [hp])]
    cases z with
    | none => rfl
    | some b =>
      have hb := hc b rfl
      have hb32 : b < 32 := by omega
      rw [show oI (some b) = nI b from rfl, if_neg (nI_m1 (show b < 2 ^ 31 by omega)), fr_al_nI hb32 (by decide), fr_al_nI ht (by decide), fr_al_nI hb32 (by decide), fr_al_nI hi (by decide)]
      rfl
/-- what the reference finds first: the order -/
theorem m_ff {h th : Nat → Nat} {σ : fr_St} {t s : Nat} (ht : t < 4) (s0 : 0 < s) (s60 : s ≤ 60) (h9 : ∀ c, th c ≤ 9) (hh : ∀ c, c < 32 → h c ≤ 1800) (h17 : ∀ c, c < 32 → σ 17 c = nI (if 0 < th c then h c else 0)) (hw : ∀ c, c < 32 → σ 9 c = nI (th c)) (h11 : σ 11 t = nI s) :
    ∃ f : Nat → Int32, fr_loop (fun (b2 : Int32 × Int32 × Int32 × fr_St) => zX10_findFirst_L11 (nI t) b2.1 b2.2.1 b2.2.2.1 b2.2.2.2) fr_fu (0, 0, 1, σ) = some (nI (mo_o h th 32).length, fr_row σ 16 f) ∧ ∀ j, j < (mo_o h th 32).length → f j = nI ((mo_o h th 32).getD j 0) := by
  have io := mo_o_ok (h := h) (th := th) 32
  have nx := fun (B : Nat → Bool) (n : Nat) => mo_next (h := h) (th := th) (B := B) (n := n)
  generalize mo_o h th 32 = L at *
  have hlen := io.1
  obtain ⟨z, hz, f, rfl, hf⟩ := lp_fu (body := fun (b2 : Int32 × Int32 × Int32 × fr_St) => zX10_findFirst_L11 (nI t) b2.1 b2.2.1 b2.2.2.1 b2.2.2.2)
    (fun i b => (i ≤ L.length ∧ ∃ (m : Int32) (f : Nat → Int32) (B : Nat → Bool), b = (nI i, m, 1, fr_row σ 16 f) ∧ hs m B ∧ (∀ c, c < 32 → (B c = true ↔ ∃ j, j < i ∧ L.getD j 0 = c)) ∧ ∀ j, j < i → f j = nI (L.getD j 0)) ∨ (i = L.length + 1 ∧ ∃ (m : Int32) (f : Nat → Int32), b = (nI L.length, m, 0, fr_row σ 16 f) ∧ ∀ j, j < L.length → f j = nI (L.getD j 0)))
    (fun z => ∃ f : Nat → Int32, z = (nI L.length, fr_row σ 16 f) ∧ ∀ j, j < L.length → f j = nI (L.getD j 0)) (L.length + 1) (by omega)
    (fun i b hi hI => by
      rcases hI with ⟨hil, m, f, B, rfl, hm, hB, hf⟩ | ⟨hil, _⟩
      · left
        show ∃ b', zX10_findFirst_L11 (nI t) (nI i) m 1 (fr_row σ 16 f) = _ ∧ _
        unfold zX10_findFirst_L11
        rw [if_neg (by decide), m_fsel (σ := fr_row σ 16 f) (h := h) (th := th) (s := s) ht s0 s60 h9 hh h17 hw h11 hm, Option.bind_some, nx B i hil hB]
        by_cases hl : i < L.length
        · have hk := io.2.2 i hl
          rw [if_pos hl, show oI (some (L.getD i 0)) = nI (L.getD i 0) from rfl, if_neg (nI_m1 (by omega)), Option.bind_some, if10, fr_as_nI (show i < 32 by omega) (by decide), Option.bind_some, fr_put_row, nI_1]
          refine ⟨_, rfl, Or.inl ⟨by omega, _, _, _, rfl, hs_or hm hk.1, fun c hc => ?_, fun j hj => ?_⟩⟩
          · constructor
            · intro hx
              rcases Bool.or_eq_true_iff.mp hx with a | a
              · exact ⟨i, by omega, (of_decide_eq_true a).symm⟩
              · obtain ⟨j, hj, ej⟩ := (hB c hc).mp a
                exact ⟨j, by omega, ej⟩
            · rintro ⟨j, hj, ej⟩
              by_cases e : j = i
              · subst e; rw [← ej]; simp
              · rw [(hB c hc).mpr ⟨j, by omega, ej⟩]; simp
          · rw [upd_at]
            by_cases e : j = i
            · rw [if_pos e, e]
            · rw [if_neg e]; exact hf j (by omega)
        · have e : i = L.length := by omega
          subst e
          rw [if_neg hl]
          exact ⟨_, rfl, Or.inr ⟨rfl, m, f, rfl, hf⟩⟩
      · omega)
    (fun b hI => by
      rcases hI with ⟨hil, _⟩ | ⟨_, m, f, rfl, hf⟩
      · omega
      · exact ⟨_, rfl, f, rfl, hf⟩)
    0 (0, 0, 1, σ) (by omega) (Or.inl ⟨by omega, 0, σ 16, fun _ => false, by rw [fr_row_id]; rfl, hs_0, fun c _ => ⟨fun h => by simp at h, fun ⟨j, hj, _⟩ => by omega⟩, fun j hj => by omega⟩)
  exact ⟨f, hz, hf⟩
theorem m_first {T lk th : Nat → Nat} {n : Nat} {σ : fr_St} {t s : Nat} (ht : t < 4) (s0 : 0 < s) (s60 : s ≤ 60) (hn : n ≤ 40) (h14 : σ 0 14 = nI (rd_n T n)) (h10 : ∀ i, i < rd_n T n → ∃ k, k < 5 ∧ rd_k (T i) = some k ∧ σ 10 i = nI k) (h9 : ∀ c, th c ≤ 9) (hl : ∀ j, j < 160 → lk j ≤ 9) (h13 : ∀ j, j < 160 → σ 13 j = nI (lk j)) (hw : ∀ c, c < 32 → σ 9 c = nI (th c)) (h11 : σ 11 t = nI s) :
    ∃ p f : Nat → Int32, zX10_findFirst σ (nI t) = some (nI (mo_o (mo_h T n lk) th 32).length, fr_row (fr_row σ 17 p) 16 f) ∧ (∀ c, c < 32 → p c = nI (if 0 < th c then mo_h T n lk c else 0)) ∧ ∀ j, j < (mo_o (mo_h T n lk) th 32).length → f j = nI ((mo_o (mo_h T n lk) th 32).getD j 0) := by
  obtain ⟨p, e, hp⟩ := m_parts (T := T) (lk := lk) (th := th) hn h14 h10 h9 h13 hw
  obtain ⟨f, e2, hf⟩ := m_ff (σ := fr_row σ 17 p) (h := mo_h T n lk) (th := th) (t := t) (s := s) ht s0 s60 h9 (fun c hc => mo_h_le hn hl hc) (fun c hc => by rw [fr_row_self]; exact hp c hc) hw h11
  refine ⟨p, f, ?_, hp, hf⟩
  unfold zX10_findFirst
  rw [e, Option.bind_some, e2, Option.bind_some]
