/-! warm: the reference -/
/-- the thickest that is left at second t -/
def wt (th : Nat → Nat) (B : Nat → Bool) (d : Nat) : Option Nat := pk_b (fun c => !B c && decide (d < th c)) (fun a b => decide (th b < th a)) 32
theorem wt_spec {th : Nat → Nat} {B : Nat → Bool} {d : Nat} : (wt th B d = none ∧ ∀ c, c < 32 → B c = false → th c ≤ d) ∨ ∃ b, wt th B d = some b ∧ b < 32 ∧ B b = false ∧ d < th b ∧ ∀ c, c < 32 → B c = false → th c ≤ th b := by
  unfold wt
  rcases pk_spec (can := fun c => !B c && decide (d < th c)) (bet := fun a b => decide (th b < th a)) (fun x y _ _ k => by
    have := of_decide_eq_true k
    exact decide_eq_false (by omega)) (fun c x y _ _ _ k1 k2 => by
    have a := of_decide_eq_true k1
    have b := of_decide_eq_false k2
    exact decide_eq_true (by omega)) 32 with ⟨e, h⟩ | ⟨b, e, hb, hc, h1, h2⟩
  · refine Or.inl ⟨e, fun c hc hB => ?_⟩
    have := h c hc
    rw [hB] at this
    have := of_decide_eq_false (show decide (d < th c) = false from this)
    omega
  · have hc' : B b = false ∧ d < th b := by simpa using hc
    refine Or.inr ⟨b, e, hb, hc'.1, hc'.2, fun c hc hB => ?_⟩
    by_cases k : d < th c
    · have := of_decide_eq_false (h1 c hc (by simp [hB, k]))
      omega
    · omega
theorem m_wt {th : Nat → Nat} {B : Nat → Bool} {σ : fr_St} {t m : Nat} {k3 : Int32} (m0 : 0 < m) (hm : m ≤ 60) (ht : t ≤ 540) (h9 : ∀ c, th c ≤ 9) (hw : ∀ c, c < 32 → σ 9 c = nI (th c)) (hB : hs k3 B) :
    zX10_thickest σ (nI t) (nI m) k3 = some (oI (wt th B (t / m))) := by
  unfold zX10_thickest
  have hd : t / m ≤ 540 := Nat.le_trans (Nat.div_le_self _ _) ht
  have h := lp_seq (body := fun (b1 : Int32 × Int32) => zX10_thickest_L6 σ (nI t) (nI m) k3 b1.1 b1.2) (fun i => (oI (pk_b (fun c => !B c && decide (t / m < th c)) (fun a b => decide (th b < th a)) i), nI i)) 32 (oI (wt th B (t / m))) (by omega) (fun i hi => by
      show zX10_thickest_L6 σ (nI t) (nI m) k3 (oI (pk_b (fun c => !B c && decide (t / m < th c)) (fun a b => decide (th b < th a)) i)) (nI i) = some (.inl (oI (if (!B i && decide (t / m < th i)) = true then (match pk_b (fun c => !B c && decide (t / m < th c)) (fun a b => decide (th b < th a)) i with
        | none => some i
        | some b => if decide (th b < th i) = true then some i else some b) else pk_b (fun c => !B c && decide (t / m < th c)) (fun a b => decide (th b < th a)) i), nI (i + 1)))
      have hc := fun b => pk_can (can := fun c => !B c && decide (t / m < th c)) (bet := fun a b => decide (th b < th a)) (n := i) (b := b)
      generalize pk_b (fun c => !B c && decide (t / m < th c)) (fun a b => decide (th b < th a)) i = z at *
      unfold zX10_thickest_L6
      have := h9 i
      rw [if_neg (show ¬ 32 ≤ nI i from nI_ge (b := 32) hi (by decide)), hs_in hB hi, nI_1]
      cases hBi : B i with
      | true =>
        rw [if_neg (show ¬ (if true = true then (1 : Int32) else 0) = 0 by decide), if_pos rfl, if_neg (show ¬ (!true && decide (t / m < th i)) = true by simp)]
      | false =>
        rw [if_pos (show (if false = true then (1 : Int32) else 0) = 0 from rfl), fr_al_nI hi (by decide), Option.bind_some, fr_dv_nI (by omega) m0 (by omega), Option.bind_some, Option.bind_some, hw i hi]
        by_cases h1 : t / m < th i
        · rw [if_neg (nI_ge h1 (by omega)), if10, if_pos (show (!false && decide (t / m < th i)) = true by simp [h1])]
          cases z with
          | none => rfl
          | some b =>
            have hb := hc b rfl
            have hb32 : b < 32 := by omega
            have := h9 b
            rw [show oI (some b) = nI b from rfl, if_neg (nI_m1 (show b < 2 ^ 31 by omega)), Option.bind_some, fr_al_nI hb32 (by decide), Option.bind_some, hw b hb32]
            by_cases h2 : th b < th i
            · rw [if_neg (nI_ge h2 (by omega))]
              simp only [h2, decide_true, if_true]
              rfl
            · rw [if_pos (nI_le (by omega) (by omega))]
              simp only [h2, decide_false]
              rfl
        · rw [if_pos (nI_le (by omega) (by omega)), if00, if_neg (show ¬ (!false && decide (t / m < th i)) = true by simp [h1])]) (by
      show zX10_thickest_L6 σ (nI t) (nI m) k3 _ (nI 32) = _
      unfold zX10_thickest_L6
      rw [if_pos (by decide)]
      rfl) 0 (by omega)
  rw [show fr_loop (fun (b1 : Int32 × Int32) => zX10_thickest_L6 σ (nI t) (nI m) k3 b1.1 b1.2) fr_fu ((-1), 0) = some (oI (wt th B (t / m))) from h, Option.bind_some]
/-- all above l is done -/
def wi_a (th : Nat → Nat) (m l t : Nat) (B : Nat → Bool) : Prop := (∀ c, c < 32 → B c = true → l < th c) ∧ ∀ c, c < 32 → l < th c → B c = false → th c * m ≤ t
/-- k of l are left -/
def wi_b (th : Nat → Nat) (m l k t : Nat) (B : Nat → Bool) : Prop := (∀ c, c < 32 → B c = true → l ≤ th c) ∧ su (fun c => if th c = l ∧ B c = false then 1 else 0) 32 = k ∧ ∀ c, c < 32 → l < th c → B c = false → th c * m ≤ t
theorem su_0 {f : Nat → Nat} : ∀ {n : Nat}, su f n = 0 → ∀ i, i < n → f i = 0
  | 0, _, i, hi => by omega
  | n + 1, h, i, hi => by
    have h' : su f n + f n = 0 := h
    by_cases e : i = n
    · rw [e]; omega
    · exact su_0 (n := n) (by omega) i (by omega)
theorem su_ex {f : Nat → Nat} : ∀ {n : Nat}, 0 < su f n → ∃ i, i < n ∧ 0 < f i
  | 0, h => by simp [su] at h
  | n + 1, h => by
    have h' : 0 < su f n + f n := h
    by_cases e : 0 < f n
    · exact ⟨n, by omega, e⟩
    · obtain ⟨i, hi, k⟩ := su_ex (f := f) (n := n) (by omega)
      exact ⟨i, by omega, k⟩
theorem wi_ab {th : Nat → Nat} {m l t : Nat} {B : Nat → Bool} (h : wi_a th m (l + 1) t B) : wi_b th m (l + 1) (cn th (l + 1)) t B := by
  refine ⟨fun c hc hB => Nat.le_of_lt (h.1 c hc hB), su_congr (fun c hc => ?_), h.2⟩
  by_cases e : th c = l + 1
  · have hBc : B c = false := by
      cases x : B c with
      | false => rfl
      | true => have := h.1 c hc x; omega
    rw [if_pos e, if_pos ⟨e, hBc⟩]
  · rw [if_neg e, if_neg (fun k => e k.1)]
theorem wi_b0 {th : Nat → Nat} {m l k t : Nat} {B : Nat → Bool} (h : wi_b th m (l + 1) k t B) (hk : k = 0 ∨ (l + 1) * m ≤ t) : wi_a th m l t B := by
  refine ⟨fun c hc hB => h.1 c hc hB, fun c hc hl hB => ?_⟩
  by_cases e : th c = l + 1
  · rcases hk with k0 | k0
    · have := su_0 (h.2.1.trans k0) c hc
      rw [if_pos ⟨e, hB⟩] at this
      omega
    · rw [e]; exact k0
  · exact h.2.2 c hc (by omega) hB
theorem wi_b1 {th : Nat → Nat} {m l k t : Nat} {B : Nat → Bool} (m0 : 0 < m) (h : wi_b th m l (k + 1) t B) (ht : ¬ l * m ≤ t) : ∃ b, wt th B (t / m) = some b ∧ b < 32 ∧ th b = l ∧ ∀ e, t ≤ e → wi_b th m l k e (fun c => decide (c = b) || B c) := by
  obtain ⟨c0, hc0, k0⟩ := su_ex (f := fun c => if th c = l ∧ B c = false then 1 else 0) (n := 32) (by rw [h.2.1]; omega)
  have hk0 : th c0 = l ∧ B c0 = false := by
    by_cases x : th c0 = l ∧ B c0 = false
    · exact x
    · rw [if_neg x] at k0; omega
  have hd := w_div m0 ht
  rcases wt_spec (th := th) (B := B) (d := t / m) with ⟨e, hno⟩ | ⟨b, e, hb, hB, hdb, hmx⟩
  · have := hno c0 hc0 hk0.2
    omega
  · have h1 := hmx c0 hc0 hk0.2
    have h2 : th b = l := by
      rcases Nat.lt_or_ge l (th b) with x | x
      · have := h.2.2 b hb x hB
        have := (Nat.div_lt_iff_lt_mul m0).mp hdb
        omega
      · omega
    refine ⟨b, e, hb, h2, fun e he => ⟨fun c hc hx => ?_, ?_, fun c hc hl hx => ?_⟩⟩
    · rcases Bool.or_eq_true_iff.mp hx with a | a
      · rw [of_decide_eq_true a]; omega
      · exact h.1 c hc a
    · have u := su_upd (f := fun c => if th c = l ∧ B c = false then 1 else 0) (p := b) (v := 0) (n := 32) hb
      rw [h.2.1, if_pos ⟨h2, hB⟩] at u
      rw [su_congr (g := fun i => if i = b then 0 else if th i = l ∧ B i = false then 1 else 0) (fun c hc => ?_)]
      · omega
      · by_cases x : c = b
        · rw [if_pos x, if_neg (by simp [x])]
        · simp [x]
    · have := h.2.2 c hc hl (by
        cases y : B c with
        | false => rfl
        | true =>
          have hx' : (decide (c = b) || B c) = false := hx
          rw [y] at hx'; simp at hx')
      omega
/-- the reference's loop, from a state in which all above l is done -/
def wr_ok (σ : fr_St) (th : Nat → Nat) (m s t0 : Nat) (B : Nat → Bool) (mk : Int32) (tt : Nat) (k3 : Int32) (N r : Nat) : Prop :=
  ∃ z, fr_loop (fun (b2 : Int32 × Int32 × Int32) => zX10_warmOf_L15 σ (nI m) (nI tt) k3 b2.1 b2.2.1 b2.2.2) N (nI t0, mk, oI (wt th B (t0 / m))) = some z ∧ fr_ei (fun r => some r) (fun (c3 : Int32) => some c3) z = some (nI r)
theorem m_wk {σ : fr_St} {th : Nat → Nat} {m s tt l M : Nat} {k3 : Int32} {nx : Nat → Nat} (m0 : 0 < m) (hm : m ≤ 60) (hs60 : s ≤ 60) (htt : tt < 4) (hl : l + 1 ≤ 9) (hk3 : ¬ k3 = 0) (h9 : ∀ c, th c ≤ 9) (hw : ∀ c, c < 32 → σ 9 c = nI (th c)) (h11 : σ 11 tt = nI s)
    (hnx : ∀ (t : Nat) (B : Nat → Bool) (mk : Int32) (N : Nat), hs mk B → wi_a th m l t B → t ≤ 540 → M ≤ N → wr_ok σ th m s t B mk tt k3 N (nx t)) :
    ∀ (k t : Nat) (B : Nat → Bool) (mk : Int32) (N : Nat), hs mk B → wi_b th m (l + 1) k t B → t ≤ 540 → M + k ≤ N → wr_ok σ th m s t B mk tt k3 N (wk m s (l + 1) nx k t) := by
  have hlm := w_lm hl hm
  intro k
  induction k with
  | zero => intro t B mk N hB hI ht hN; exact hnx t B mk N hB (wi_b0 hI (Or.inl rfl)) ht (by omega)
  | succ k ih =>
    intro t B mk N hB hI ht hN
    by_cases h1 : (l + 1) * m ≤ t
    · have := hnx t B mk N hB (wi_b0 hI (Or.inr h1)) ht (by omega)
      unfold wk
      rw [if_pos h1]
      exact this
    · obtain ⟨b, eb, hb, hth, hI'⟩ := wi_b1 m0 hI h1
      have hd := w_div m0 h1
      have he := w_e (t := t) (m := m) hl hs60
      obtain ⟨N, rfl⟩ : ∃ M, N = M + 1 := ⟨N - 1, by omega⟩
      have hd2 : t / m ≤ l + 1 := by omega
      have e1 : nI t + nI s * (nI (l + 1) - nI (t / m)) = nI (t + (l + 1 - t / m) * s) := by
        rw [pk_sub hd2, pk_mul, nI_add, Nat.mul_comm s]
      unfold wk wr_ok
      rw [if_neg h1, eb]
      by_cases h2 : (l + 1) * m ≤ t + (l + 1 - t / m) * s
      · rw [if_pos h2]
        have hb' : zX10_warmOf_L15 σ (nI m) (nI tt) k3 (nI t) mk (oI (some b)) = some (.inr (.inl (nI ((l + 1) * m)))) := by
          unfold zX10_warmOf_L15
          rw [show oI (some b) = nI b from rfl, if_neg (nI_m1 (show b < 2 ^ 31 by omega)), fr_al_nI hb (by decide), Option.bind_some, fr_al_nI htt (by decide), Option.bind_some, Option.bind_some, fr_dv_nI (by omega) m0 (by omega), Option.bind_some, hw b hb, h11, hth, if_neg hk3, e1, pk_mul, Nat.mul_comm m, if_neg (nI_nlt h2 (by omega))]
        exact ⟨_, lp_r hb', rfl⟩
      · rw [if_neg h2]
        have hB' := hs_or hB hb
        have hb' : zX10_warmOf_L15 σ (nI m) (nI tt) k3 (nI t) mk (oI (some b)) = some (.inl (nI (t + (l + 1 - t / m) * s), mk ||| (1 <<< (nI b &&& 31)), oI (wt th (fun c => decide (c = b) || B c) ((t + (l + 1 - t / m) * s) / m)))) := by
          unfold zX10_warmOf_L15
          rw [show oI (some b) = nI b from rfl, if_neg (nI_m1 (show b < 2 ^ 31 by omega)), fr_al_nI hb (by decide), Option.bind_some, fr_al_nI htt (by decide), Option.bind_some, Option.bind_some, fr_dv_nI (by omega) m0 (by omega), Option.bind_some, hw b hb, h11, hth, if_neg hk3, e1, pk_mul, Nat.mul_comm m, if_pos (nI_lt (by omega) (by omega)), m_wt m0 hm (by omega) h9 hw hB', Option.bind_some]
        obtain ⟨z, a1, a2⟩ := ih (t + (l + 1 - t / m) * s) (fun c => decide (c = b) || B c) (mk ||| (1 <<< (nI b &&& 31))) N hB' (hI' _ (by omega)) (by omega) (by omega)
        exact ⟨z, (lp_l hb').trans a1, a2⟩
theorem m_wl {σ : fr_St} {th : Nat → Nat} {m s tt : Nat} {k3 : Int32} (m0 : 0 < m) (hm : m ≤ 60) (hs60 : s ≤ 60) (htt : tt < 4) (hk3 : ¬ k3 = 0) (h9 : ∀ c, th c ≤ 9) (hw : ∀ c, c < 32 → σ 9 c = nI (th c)) (h11 : σ 11 tt = nI s) :
    ∀ (l : Nat), l ≤ 9 → ∀ (t : Nat) (B : Nat → Bool) (mk : Int32) (N : Nat), hs mk B → wi_a th m l t B → t ≤ 540 → 1 + 33 * l ≤ N → wr_ok σ th m s t B mk tt k3 N (wl m s (cn th) l t) := by
  intro l
  induction l with
  | zero =>
    intro _ t B mk N hB hI ht hN
    obtain ⟨N, rfl⟩ : ∃ M, N = M + 1 := ⟨N - 1, by omega⟩
    unfold wr_ok
    rcases wt_spec (th := th) (B := B) (d := t / m) with ⟨e, hno⟩ | ⟨b, e, hb, hBb, hdb, hmx⟩
    · rw [e]
      have hb' : zX10_warmOf_L15 σ (nI m) (nI tt) k3 (nI t) mk (oI none) = some (.inr (.inr (nI t))) := by
        unfold zX10_warmOf_L15
        rw [if_pos (show oI none = -1 from rfl)]
      exact ⟨_, lp_r hb', rfl⟩
    · have h1 := hI.2 b hb (Nat.lt_of_le_of_lt (Nat.zero_le _) hdb) hBb
      have := (Nat.div_lt_iff_lt_mul m0).mp hdb
      omega
  | succ l ih =>
    intro hl t B mk N hB hI ht hN
    have := cn_le (th := th) (l := l + 1)
    exact m_wk (M := 1 + 33 * l) (nx := wl m s (cn th) l) m0 hm hs60 htt hl hk3 h9 hw h11 (fun t B mk N a b c d => ih (by omega) t B mk N a b c d) (cn th (l + 1)) t B mk N hB (wi_ab hI) ht (by omega)
theorem m_both {σ : fr_St} {th : Nat → Nat} {m s tt : Nat} {k3 : Int32} (m0 : 0 < m) (hm : m ≤ 60) (hs60 : s ≤ 60) (htt : tt < 4) (hk3 : ¬ k3 = 0) (h9 : ∀ c, th c ≤ 9) (hw : ∀ c, c < 32 → σ 9 c = nI (th c)) (h11 : σ 11 tt = nI s) : zX10_warmOf σ (nI m) (nI tt) k3 = some (nI (wl m s (cn th) 9 0)) := by
  unfold zX10_warmOf
  obtain ⟨z, a, b⟩ := m_wl (σ := σ) (th := th) m0 hm hs60 htt hk3 h9 hw h11 9 (by omega) 0 (fun _ => false) 0 fr_fu hs_0 ⟨fun c _ h => by simp at h, fun c _ h => by have := h9 c; omega⟩ (by omega) (by have := fr_fu_ge; omega)
  rw [show zX10_thickest σ 0 (nI m) 0 = zX10_thickest σ (nI 0) (nI m) 0 from rfl, m_wt (th := th) (B := fun _ => false) m0 hm (by omega) h9 hw hs_0, Option.bind_some]
  rw [show fr_loop (fun (b2 : Int32 × Int32 × Int32) => zX10_warmOf_L15 σ (nI m) (nI tt) k3 b2.1 b2.2.1 b2.2.2) fr_fu (0, 0, oI (wt th (fun _ => false) (0 / m))) = some z from a, Option.bind_some]
  exact b
theorem m_thk {σ : fr_St} {th : Nat → Nat} {m s tt l : Nat} (m0 : 0 < m) (hm : m ≤ 60) (htt : tt < 4) (h9 : ∀ c, th c ≤ 9) (hw : ∀ c, c < 32 → σ 9 c = nI (th c)) (h11 : σ 11 tt = nI s) (hl : l ≤ 9) (h1 : 0 < l → 0 < cn th l) (h2 : ∀ j, l < j → j ≤ 9 → cn th j = 0) : zX10_warmOf σ (nI m) (nI tt) 0 = some (nI l * nI m) := by
  unfold zX10_warmOf
  have up : ∀ c, c < 32 → th c ≤ l := fun c hc => by
    rcases Nat.lt_or_ge l (th c) with x | x
    · have := su_0 (h2 (th c) x (h9 c)) c hc
      rw [if_pos rfl] at this
      omega
    · exact x
  have ex := fun h0 => su_ex (f := fun c => if th c = l then 1 else 0) (n := 32) (h1 h0)
  have e0 := m_wt (th := th) (B := fun _ => false) (t := 0) (m := m) (k3 := 0) m0 hm (by omega) h9 hw hs_0
  rw [Nat.zero_div] at e0
  rw [show zX10_thickest σ 0 (nI m) 0 = zX10_thickest σ (nI 0) (nI m) 0 from rfl, e0, Option.bind_some]
  obtain ⟨N, hN⟩ : ∃ M, fr_fu = M + 1 := ⟨fr_fu - 1, by have := fr_fu_ge; omega⟩
  rw [hN]
  rcases wt_spec (th := th) (B := fun _ => false) (d := 0) with ⟨e, hno⟩ | ⟨b, e, hb, hBb, hdb, hmx⟩
  · have l0 : l = 0 := by
      rcases Nat.eq_zero_or_pos l with x | x
      · exact x
      · obtain ⟨c, hc, k⟩ := ex x
        have hk : th c = l := by
          by_cases y : th c = l
          · exact y
          · rw [if_neg y] at k; omega
        have := hno c hc rfl
        omega
    rw [e]
    have hb' : zX10_warmOf_L15 σ (nI m) (nI tt) 0 0 0 (oI none) = some (.inr (.inr 0)) := by
      unfold zX10_warmOf_L15
      rw [if_pos (show oI none = -1 from rfl)]
    rw [lp_r (body := fun (b2 : Int32 × Int32 × Int32) => zX10_warmOf_L15 σ (nI m) (nI tt) 0 b2.1 b2.2.1 b2.2.2) (b := (0, 0, oI none)) hb', Option.bind_some, l0, pk_mul, Nat.zero_mul]
    rfl
  · have hbl : th b = l := by
      have := up b hb
      obtain ⟨c, hc, k⟩ := ex (by omega)
      have hk : th c = l := by
        by_cases y : th c = l
        · exact y
        · rw [if_neg y] at k; omega
      have := hmx c hc rfl
      omega
    rw [e]
    have hb' : zX10_warmOf_L15 σ (nI m) (nI tt) 0 0 0 (oI (some b)) = some (.inr (.inl (nI m * nI l))) := by
      unfold zX10_warmOf_L15
      rw [show oI (some b) = nI b from rfl, if_neg (nI_m1 (show b < 2 ^ 31 by omega)), fr_al_nI hb (by decide), Option.bind_some, fr_al_nI htt (by decide), Option.bind_some, Option.bind_some, show fr_dv 0 (nI m) = fr_dv (nI 0) (nI m) from rfl, fr_dv_nI (by omega) m0 (by omega), Option.bind_some, hw b hb, hbl, if_pos rfl]
    rw [lp_r (body := fun (b2 : Int32 × Int32 × Int32) => zX10_warmOf_L15 σ (nI m) (nI tt) 0 b2.1 b2.2.1 b2.2.2) (b := (0, 0, oI (some b))) hb', Option.bind_some, pk_mul, pk_mul, Nat.mul_comm]
    rfl
theorem both_warm {ν : Nat → Nat → Nat} {σx σm : fr_St} (hR : Rs ν σx σm) (ht : mst ν (ν 0 19) σm) {m t : Nat} (m0 : 1 ≤ m) (hm : m ≤ 60) (ht4 : t < 4) {a3 : Int32} (h3 : ¬ zX9_within a3 0 1 = 0) :
    ∃ r, zX9_warm σx (nI m) (nI t) a3 = some (r, σx) ∧ zX10_warmOf σm (nI m) (nI t) a3 = some r := by
  obtain ⟨g, th, lf, h, rfl, rfl, rfl, rfl, m18, m19, m20, m21, m6, m22, m7, m23⟩ := hR.2.2.2.2.2.1
  have m23' : ∀ l, 1 ≤ l → l < 10 → σx 23 l = nI (cn (vT ν) l) := m23
  have hw : ∀ c, c < 32 → σm 9 c = nI (vT ν c) := ht.2.2.2.2.2.1
  have h11 := hR.2.2.1.2.2.1 t ht4
  have hsec := hR.1.2.2.1 t ht4
  unfold zX9_warm zX9_isTool zX9_isPair
  rw [show zX9_within (nI m) 1 60 = 1 from wi_one (nI_le (a := 1) m0 (by omega)) (nI_le (b := 60) hm (by decide)), if10, show zX9_within (nI t) 0 3 = 1 from wi_nI (m := 3) (by omega) (by decide), if10, if_neg h3, Rs_set hR, Option.bind_some, Option.bind_some]
  dsimp only
  by_cases z : a3 = 0
  · obtain ⟨l, e, hl, k1, k2⟩ := x_thk (f := cn (vT ν)) (σ := σx) (fun l => cn_le) m23'
    rw [if_pos z, e, Option.bind_some]
    refine ⟨_, rfl, ?_⟩
    rw [z]
    exact m_thk m0 hm ht4 vT9 hw h11 hl k1 k2
  · rw [if_neg z, fr_al_nI ht4 (by decide), Option.bind_some, hR.2.1.2.2.2.1 t ht4, x_both (f := cn (vT ν)) m0 hm hsec.2 (fun l => cn_le) m23', Option.bind_some]
    exact ⟨_, rfl, m_both m0 hm hsec.2 ht4 z vT9 hw h11⟩
theorem ok_warm : sm_warm Rl := by
  rintro σx σm a1 a2 a3 ⟨ν, hn, hx, hm, hs, hd, ho, hf⟩
  have hR0 : Rl σx σm := ⟨ν, hn, hx, hm, hs, hd, ho, hf⟩
  obtain ⟨σ2, e2, ht, hsc⟩ := ms_scrapes (k := ν 0 19) hn hm hn.2.2.2.2.2.1
  unfold zX10_warm zX10_scrapesAll
  rw [hm.2.2.2.2.2.1, e2, Option.bind_some, Option.bind_some, in_isTool, in_1_60, in_isTwo]
  rcases wi_c1 a1 (M := 60) (m := 60) rfl (by decide) with h1 | ⟨m, m0, hm60, rfl, h1⟩
  · exact ⟨-2, σx, σ2, by unfold zX9_warm; rw [if_pos h1], by rw [if_pos h1], Rl_sc hR0 hsc⟩
  rw [h1, if10]
  rcases wi_c a2 (M := 3) (m := 3) rfl (by decide) with h2 | ⟨t, ht4, rfl, h2⟩
  · exact ⟨-2, σx, σ2, by unfold zX9_warm zX9_isTool; rw [h1, if10, if_pos h2], by rw [if_pos h2], Rl_sc hR0 hsc⟩
  rw [h2, if10]
  by_cases h3 : zX9_within a3 0 1 = 0
  · exact ⟨-2, σx, σ2, by unfold zX9_warm zX9_isTool zX9_isPair; rw [h1, if10, h2, if10, if_pos h3], by rw [if_pos h3], Rl_sc hR0 hsc⟩
  rw [if_neg h3]
  obtain ⟨σ', e, hR, hq⟩ := settled hn hx hm hs hd ho hf
  obtain ⟨r, x1, x2⟩ := both_warm (Rs_sc hR hsc) ht m0 hm60 (show t < 4 by omega) h3
  have ee : zX9_warm σx (nI m) (nI t) a3 = zX9_warm σ' (nI m) (nI t) a3 := by
    unfold zX9_warm zX9_isTool zX9_isPair
    rw [h1, if10, if10, h2, if10, if10, if_neg h3, if_neg h3, e, Rs_set hR]
  exact ⟨r, σ', σ2, ee.trans x1, by rw [x2, Option.bind_some], Rs_Rl (Rs_sc hR hsc)⟩
