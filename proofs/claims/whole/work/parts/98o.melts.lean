/-! melts -/
def gk (need : Nat) (nx : Nat → Nat) : Nat → Nat → Nat
  | 0, q => nx q
  | k + 1, q => if need ≤ q then 1 + gk need nx k (q - need) else 0
def nd (off l : Nat) : Nat := (l + off - 1) / off
def gl (off : Nat) (f : Nat → Nat) : Nat → Nat → Nat
  | 0, _ => 0
  | d + 1, q => gk (nd off (9 - d)) (gl off f d) (f (9 - d)) q
theorem nd_pos {off l : Nat} (h0 : 0 < off) (h1 : 1 ≤ l) : 0 < nd off l := Nat.div_pos (by omega) h0
theorem nd_mono {off l l' : Nat} (h : l ≤ l') : nd off l ≤ nd off l' := Nat.div_le_div_right (by omega)
theorem nd_9 {off l : Nat} (h0 : 0 < off) (h : l ≤ 9) : nd off l ≤ 9 := by
  unfold nd
  have : l + off - 1 < 10 * off := by omega
  have := (Nat.div_lt_iff_lt_mul h0).mpr this
  omega
theorem gk_c {need : Nat} {nx : Nat → Nat} (h0 : 0 < need) : ∀ (k q : Nat), gk need nx k q = if k * need ≤ q then k + nx (q - k * need) else q / need
  | 0, q => by
    rw [Nat.zero_mul, if_pos (Nat.zero_le _), Nat.zero_add]
    rfl
  | k + 1, q => by
    unfold gk
    have e : (k + 1) * need = k * need + need := Nat.succ_mul k need
    by_cases h : need ≤ q
    · rw [if_pos h, gk_c h0 k (q - need), e]
      by_cases h2 : k * need ≤ q - need
      · rw [if_pos h2, if_pos (by omega), show q - need - k * need = q - (k * need + need) by omega]
        omega
      · rw [if_neg h2, if_neg (by omega), Nat.div_eq_sub_div h0 h]
        omega
    · rw [if_neg h, if_neg (by omega), Nat.div_eq_of_lt (by omega)]
theorem gl_0 {off : Nat} {f : Nat → Nat} : ∀ (d q : Nat), d ≤ 9 → q < nd off (10 - d) → gl off f d q = 0
  | 0, q, _, _ => rfl
  | d + 1, q, hd, hq => by
    unfold gl
    rw [show 10 - (d + 1) = 9 - d by omega] at hq
    cases f (9 - d) with
    | zero => exact gl_0 d q (by omega) (Nat.lt_of_lt_of_le hq (nd_mono (by omega)))
    | succ k =>
      unfold gk
      rw [if_neg (by omega)]
theorem x_cups {σ : fr_St} {off q0 : Nat} {f : Nat → Nat} (o0 : 0 < off) (ho : off ≤ 9) (hq0 : q0 ≤ 99) (hf : ∀ l, f l ≤ 32) (h23 : ∀ l, 1 ≤ l → l < 10 → σ 23 l = nI (f l)) : zX1_clearedByCups σ (nI off) (nI q0) = some (nI (gl off f 9 q0)) := by
  unfold zX1_clearedByCups
  obtain ⟨z, hz, rfl⟩ := lp_fu (body := fun (b1 : Int32 × Int32 × Int32) => zX1_clearedByCups_L14 σ (nI off) b1.1 b1.2.1 b1.2.2)
    (fun i b => ∃ n q, b = (nI n, nI q, nI (i + 1)) ∧ q ≤ 99 ∧ n + gl off f (9 - i) q = gl off f 9 q0)
    (fun z => z = nI (gl off f 9 q0)) 9 (by omega)
    (fun i b hi hI => by
      obtain ⟨n, q, rfl, hq, hn⟩ := hI
      left
      show ∃ b', zX1_clearedByCups_L14 σ (nI off) (nI n) (nI q) (nI (i + 1)) = _ ∧ _
      have h1 : 0 < nd off (i + 1) := nd_pos o0 (by omega)
      have h2 := nd_9 (off := off) (l := i + 1) o0 (by omega)
      have hfi := hf (i + 1)
      have ex : (nI (i + 1) + nI off) - 1 = nI (i + 1 + off - 1) := by
        rw [nI_add, show i + 1 + off = (i + 1 + off - 1) + 1 by omega, nI_pred]
        rfl
      have e1 : fr_dv ((nI (i + 1) + nI off) - 1) (nI off) = some (nI (nd off (i + 1))) := by
        rw [ex, fr_dv_nI (by omega) o0 (by omega)]
        rfl
      unfold zX1_clearedByCups_L14
      rw [if_neg (show ¬ 9 < nI (i + 1) from nI_nlt (a := 9) (by omega) (by decide)), e1, Option.bind_some, if_neg (nI_nle h1 (by omega)), fr_al_nI (show i + 1 < 10 by omega) (by decide), Option.bind_some, h23 (i + 1) (by omega) (by omega), fr_dv_nI (by omega) h1 (by omega), Option.bind_some, Option.bind_some]
      have hq2 : q / nd off (i + 1) ≤ q := Nat.div_le_self _ _
      obtain ⟨d, hd⟩ : ∃ d, 9 - i = d + 1 := ⟨8 - i, by omega⟩
      rw [hd] at hn
      rw [show 9 - (i + 1) = d by omega]
      have hg : gl off f (d + 1) q = gk (nd off (i + 1)) (gl off f d) (f (i + 1)) q := by
        show gk (nd off (9 - d)) (gl off f d) (f (9 - d)) q = _
        rw [show 9 - d = i + 1 by omega]
      rw [hg, gk_c h1] at hn
      by_cases hc : f (i + 1) * nd off (i + 1) ≤ q
      · have hc' : ¬ q / nd off (i + 1) < f (i + 1) := fun h => by
          have := (Nat.div_lt_iff_lt_mul h1).mp h
          omega
        rw [if_pos hc] at hn
        rw [if_neg (nI_nlt (by omega) (by omega)), pk_mul, nI_add, pk_sub hc, nI_1]
        exact ⟨_, rfl, _, _, rfl, by omega, by omega⟩
      · have hc' : q / nd off (i + 1) < f (i + 1) := (Nat.div_lt_iff_lt_mul h1).mpr (by omega)
        rw [if_neg hc] at hn
        have hm : q / nd off (i + 1) * nd off (i + 1) ≤ q := Nat.div_mul_le_self _ _
        have hr : q - q / nd off (i + 1) * nd off (i + 1) < nd off (i + 1) := by
          have a1 := Nat.mod_lt q h1
          have a2 := Nat.div_add_mod q (nd off (i + 1))
          have a3 : nd off (i + 1) * (q / nd off (i + 1)) = q / nd off (i + 1) * nd off (i + 1) := Nat.mul_comm _ _
          omega
        rw [if_pos (nI_lt hc' (by omega)), pk_mul, nI_add, pk_sub hm, nI_1]
        refine ⟨_, rfl, _, _, rfl, by omega, ?_⟩
        rw [gl_0 d _ (by omega) (Nat.lt_of_lt_of_le hr (nd_mono (by omega)))]
        exact hn)
    (fun b hI => by
      obtain ⟨n, q, rfl, hq, hn⟩ := hI
      refine ⟨nI n, ?_, ?_⟩
      · show zX1_clearedByCups_L14 σ (nI off) (nI n) (nI q) (nI (9 + 1)) = _
        unfold zX1_clearedByCups_L14
        rw [if_pos (by decide)]
      · have : gl off f (9 - 9) q = 0 := rfl
        rw [this] at hn
        rw [← hn, Nat.add_zero])
    0 (0, nI q0, 1) (by omega) ⟨0, q0, rfl, hq0, Nat.zero_add _⟩
  rw [if_pos (by rw [nI_lt0 (by omega)]; exact o0), hz, Option.bind_some]
/-! melts: the reference -/
def mt (th : Nat → Nat) (B : Nat → Bool) : Option Nat := pk_b (fun c => decide (0 < th c) && !B c) (fun a b => decide (th a < th b)) 32
theorem mt_spec {th : Nat → Nat} {B : Nat → Bool} : (mt th B = none ∧ ∀ c, c < 32 → B c = false → th c = 0) ∨ ∃ b, mt th B = some b ∧ b < 32 ∧ B b = false ∧ 0 < th b ∧ ∀ c, c < 32 → B c = false → 0 < th c → th b ≤ th c := by
  unfold mt
  rcases pk_spec (can := fun c => decide (0 < th c) && !B c) (bet := fun a b => decide (th a < th b)) (fun x y _ _ k => by
    have := of_decide_eq_true k
    exact decide_eq_false (by omega)) (fun c x y _ _ _ k1 k2 => by
    have a := of_decide_eq_true k1
    have b := of_decide_eq_false k2
    exact decide_eq_true (by omega)) 32 with ⟨e, h⟩ | ⟨b, e, hb, hc, h1, h2⟩
  · refine Or.inl ⟨e, fun c hc hB => ?_⟩
    have := h c hc
    rw [hB] at this
    have := of_decide_eq_false (show decide (0 < th c) = false by simpa using this)
    omega
  · have hc' : 0 < th b ∧ B b = false := by simpa using hc
    refine Or.inr ⟨b, e, hb, hc'.2, hc'.1, fun c hc hB h0 => ?_⟩
    have := of_decide_eq_false (h1 c hc (by simp [hB, h0]))
    omega
theorem m_mt {th : Nat → Nat} {B : Nat → Bool} {σ : fr_St} {k3 k4 k5 k6 : Int32} (h9 : ∀ c, th c ≤ 9) (hw : ∀ c, c < 32 → σ 9 c = nI (th c)) (hB : hs k6 B) :
    fr_loop (fun (b1 : Int32 × Int32) => zX10_meltsOf_L36 σ k3 k4 k5 k6 b1.1 b1.2) fr_fu ((-1), 0) = some (oI (mt th B)) := by
  refine lp_seq (body := fun (b1 : Int32 × Int32) => zX10_meltsOf_L36 σ k3 k4 k5 k6 b1.1 b1.2) (fun i => (oI (pk_b (fun c => decide (0 < th c) && !B c) (fun a b => decide (th a < th b)) i), nI i)) 32 _ (by omega) (fun i hi => ?_) (by
      show zX10_meltsOf_L36 σ k3 k4 k5 k6 _ (nI 32) = _
      unfold zX10_meltsOf_L36
      rw [if_pos (by decide)]
      rfl) 0 (by omega)
  show zX10_meltsOf_L36 σ k3 k4 k5 k6 (oI (pk_b (fun c => decide (0 < th c) && !B c) (fun a b => decide (th a < th b)) i)) (nI i) = some (.inl (oI (if (decide (0 < th i) && !B i) = true then (match pk_b (fun c => decide (0 < th c) && !B c) (fun a b => decide (th a < th b)) i with
    | none => some i
    | some b => if decide (th i < th b) = true then some i else some b) else pk_b (fun c => decide (0 < th c) && !B c) (fun a b => decide (th a < th b)) i), nI (i + 1)))
  have hc := fun b => pk_can (can := fun c => decide (0 < th c) && !B c) (bet := fun a b => decide (th a < th b)) (n := i) (b := b)
  generalize pk_b (fun c => decide (0 < th c) && !B c) (fun a b => decide (th a < th b)) i = z at *
  unfold zX10_meltsOf_L36
  have := h9 i
  rw [if_neg (show ¬ 32 ≤ nI i from nI_ge (b := 32) hi (by decide)), fr_al_nI hi (by decide), Option.bind_some, hw i hi, hs_in hB hi, nI_1]
  by_cases h0 : 0 < th i
  · rw [if_neg (nI_nle h0 (by omega))]
    cases hBi : B i with
    | true =>
      rw [if_neg (show ¬ (if true = true then (1 : Int32) else 0) = 0 by decide), if_neg (show ¬ (decide (0 < th i) && !true) = true by simp)]
    | false =>
      rw [if_pos (show (if false = true then (1 : Int32) else 0) = 0 from rfl), if_pos (show (decide (0 < th i) && !false) = true by simp [h0])]
      cases z with
      | none => rfl
      | some b =>
        have hb := hc b rfl
        have hb32 : b < 32 := by omega
        have := h9 b
        rw [show oI (some b) = nI b from rfl, if_neg (nI_m1 (show b < 2 ^ 31 by omega)), Option.bind_some, fr_al_nI hb32 (by decide), Option.bind_some, hw b hb32]
        by_cases h2 : th i < th b
        · rw [if_neg (nI_ge h2 (by omega))]
          simp only [h2, decide_true, if_true]
          rfl
        · rw [if_pos (nI_le (by omega) (by omega))]
          simp only [h2, decide_false]
          rfl
  · rw [if_pos (by rw [nI_le0 (by omega)]; omega), if_neg (show ¬ (decide (0 < th i) && !B i) = true by simp [h0])]
/-- all below l are had, none from l on -/
def mi_a (th : Nat → Nat) (l : Nat) (B : Nat → Bool) : Prop := (∀ c, c < 32 → B c = true → th c < l) ∧ ∀ c, c < 32 → 0 < th c → B c = false → l ≤ th c
def mi_b (th : Nat → Nat) (l k : Nat) (B : Nat → Bool) : Prop := (∀ c, c < 32 → B c = true → th c ≤ l) ∧ su (fun c => if th c = l ∧ B c = false then 1 else 0) 32 = k ∧ ∀ c, c < 32 → 0 < th c → B c = false → l ≤ th c
theorem mi_ab {th : Nat → Nat} {l : Nat} {B : Nat → Bool} (h : mi_a th l B) : mi_b th l (cn th l) B := by
  refine ⟨fun c hc hB => Nat.le_of_lt (h.1 c hc hB), su_congr (fun c hc => ?_), h.2⟩
  by_cases e : th c = l
  · have hBc : B c = false := by
      cases x : B c with
      | false => rfl
      | true => have := h.1 c hc x; omega
    rw [if_pos e, if_pos ⟨e, hBc⟩]
  · rw [if_neg e, if_neg (fun k => e k.1)]
theorem mi_b0 {th : Nat → Nat} {l : Nat} {B : Nat → Bool} (h : mi_b th l 0 B) : mi_a th (l + 1) B := by
  refine ⟨fun c hc hB => Nat.lt_succ_of_le (h.1 c hc hB), fun c hc h0 hB => ?_⟩
  have h1 := h.2.2 c hc h0 hB
  by_cases e : th c = l
  · have := su_0 h.2.1 c hc
    rw [if_pos ⟨e, hB⟩] at this
    omega
  · omega
theorem mi_b1 {th : Nat → Nat} {l k : Nat} {B : Nat → Bool} (l1 : 1 ≤ l) (h : mi_b th l (k + 1) B) : ∃ b, mt th B = some b ∧ b < 32 ∧ th b = l ∧ mi_b th l k (fun c => decide (c = b) || B c) := by
  obtain ⟨c0, hc0, k0⟩ := su_ex (f := fun c => if th c = l ∧ B c = false then 1 else 0) (n := 32) (by rw [h.2.1]; omega)
  have hk0 : th c0 = l ∧ B c0 = false := by
    by_cases x : th c0 = l ∧ B c0 = false
    · exact x
    · rw [if_neg x] at k0; omega
  rcases mt_spec (th := th) (B := B) with ⟨e, hno⟩ | ⟨b, e, hb, hB, hdb, hmx⟩
  · have := hno c0 hc0 hk0.2
    omega
  · have h1 := hmx c0 hc0 hk0.2 (by omega)
    have h2 : th b = l := by
      have := h.2.2 b hb hdb hB
      omega
    refine ⟨b, e, hb, h2, ⟨fun c hc hx => ?_, ?_, fun c hc hl hx => ?_⟩⟩
    · rcases Bool.or_eq_true_iff.mp hx with a | a
      · rw [of_decide_eq_true a]; omega
      · exact h.1 c hc a
    · have u := su_upd (f := fun c => if th c = l ∧ B c = false then 1 else 0) (p := b) (v := 0) (n := 32) hb
      rw [h.2.1, if_pos ⟨h2, hB⟩] at u
      rw [su_congr (g := fun i => if i = b then 0 else if th i = l ∧ B i = false then 1 else 0) (fun c hc => ?_)]
      · omega
      · by_cases x : c = b
        · rw [if_pos x, if_neg (by simp [x])]
        · simp [x]
    · exact h.2.2 c hc hl (by
        cases y : B c with
        | false => rfl
        | true =>
          have hx' : (decide (c = b) || B c) = false := hx
          rw [y] at hx'; simp at hx')
def mr_ok (σ : fr_St) (off q n : Nat) (mk : Int32) (N r : Nat) : Prop :=
  fr_loop (fun (b2 : Int32 × Int32 × Int32 × Int32) => zX10_meltsOf_L25 σ (nI off) b2.1 b2.2.1 b2.2.2.1 b2.2.2.2) N (nI q, nI n, mk, 1) = some (nI r)
theorem m_end {σ : fr_St} {off : Nat} {q n m : Int32} {N : Nat} : fr_loop (fun (b2 : Int32 × Int32 × Int32 × Int32) => zX10_meltsOf_L25 σ (nI off) b2.1 b2.2.1 b2.2.2.1 b2.2.2.2) (N + 1) (q, n, m, 0) = some n := by
  have hb : zX10_meltsOf_L25 σ (nI off) q n m 0 = some (.inr n) := by
    unfold zX10_meltsOf_L25
    rw [if_pos rfl]
  exact lp_r hb
theorem m_gk {σ : fr_St} {th : Nat → Nat} {off l M : Nat} {nx : Nat → Nat} (o0 : 0 < off) (ho : off ≤ 9) (l1 : 1 ≤ l) (hl : l ≤ 9) (h9 : ∀ c, th c ≤ 9) (hw : ∀ c, c < 32 → σ 9 c = nI (th c))
    (hnx : ∀ (q n : Nat) (B : Nat → Bool) (mk : Int32) (N : Nat), hs mk B → mi_a th (l + 1) B → q ≤ 99 → M ≤ N → mr_ok σ off q n mk N (n + nx q)) (hM : 2 ≤ M) :
    ∀ (k q n : Nat) (B : Nat → Bool) (mk : Int32) (N : Nat), hs mk B → mi_b th l k B → q ≤ 99 → M + k ≤ N → mr_ok σ off q n mk N (n + gk (nd off l) nx k q) := by
  intro k
  induction k with
  | zero => intro q n B mk N hB hI hq hN; exact hnx q n B mk N hB (mi_b0 hI) hq (by omega)
  | succ k ih =>
    intro q n B mk N hB hI hq hN
    obtain ⟨b, eb, hb, hth, hI'⟩ := mi_b1 l1 hI
    have hn9 := nd_9 (off := off) (l := l) o0 hl
    have hn0 := nd_pos (off := off) (l := l) o0 l1
    obtain ⟨N, rfl⟩ : ∃ M, N = M + 2 := ⟨N - 2, by omega⟩
    have e1 : fr_dv ((nI l + nI off) - 1) (nI off) = some (nI (nd off l)) := by
      rw [nI_add, show l + off = (l + off - 1) + 1 by omega, nI_pred, fr_dv_nI (by omega) o0 (by omega)]
      rfl
    have hb0 : zX10_meltsOf_L25 σ (nI off) (nI q) (nI n) mk 1 = if nd off l ≤ q then some (.inl (nI (q - nd off l), nI (n + 1), mk ||| (1 <<< (nI b &&& 31)), 1)) else some (.inl (nI q - 0, nI n + 0, mk ||| 0, 0)) := by
      unfold zX10_meltsOf_L25
      rw [if_neg (by decide), m_mt (th := th) h9 hw hB, Option.bind_some, eb, show oI (some b) = nI b from rfl, if_neg (nI_m1 (show b < 2 ^ 31 by omega)), fr_al_nI hb (by decide), Option.bind_some, hw b hb, hth, e1, Option.bind_some, Option.bind_some, if_neg (nI_m1 (show b < 2 ^ 31 by omega)), Option.bind_some]
      by_cases h : nd off l ≤ q
      · rw [if_neg (nI_nlt h (by omega)), if_pos h, if10, Option.bind_some, if10, Option.bind_some, if10, pk_sub h, nI_1]
      · rw [if_pos (nI_lt (by omega) (by omega)), if_neg h, if00, Option.bind_some, if00, Option.bind_some, if00]
    unfold mr_ok gk
    by_cases h : nd off l ≤ q
    · rw [if_pos h] at hb0
      rw [if_pos h]
      have := ih (q - nd off l) (n + 1) (fun c => decide (c = b) || B c) (mk ||| (1 <<< (nI b &&& 31))) (N + 1) (hs_or hB hb) hI' (by omega) (by omega)
      rw [show n + (1 + gk (nd off l) nx k (q - nd off l)) = n + 1 + gk (nd off l) nx k (q - nd off l) by omega]
      exact (lp_l hb0).trans this
    · rw [if_neg h] at hb0
      rw [if_neg h]
      refine (lp_l hb0).trans (m_end.trans ?_)
      rw [Int32.add_zero]
      rfl
theorem m_gl {σ : fr_St} {th : Nat → Nat} {off : Nat} (o0 : 0 < off) (ho : off ≤ 9) (h9 : ∀ c, th c ≤ 9) (hw : ∀ c, c < 32 → σ 9 c = nI (th c)) :
    ∀ (d : Nat), d ≤ 9 → ∀ (q n : Nat) (B : Nat → Bool) (mk : Int32) (N : Nat), hs mk B → mi_a th (10 - d) B → q ≤ 99 → 2 + 33 * d ≤ N → mr_ok σ off q n mk N (n + gl off (cn th) d q) := by
  intro d
  induction d with
  | zero =>
    intro _ q n B mk N hB hI hq hN
    obtain ⟨N, rfl⟩ : ∃ M, N = M + 2 := ⟨N - 2, by omega⟩
    rcases mt_spec (th := th) (B := B) with ⟨e, hno⟩ | ⟨b, e, hb, hBb, hdb, hmx⟩
    · have hb0 : zX10_meltsOf_L25 σ (nI off) (nI q) (nI n) mk 1 = some (.inl (nI q - 0, nI n + 0, mk ||| 0, 0)) := by
        unfold zX10_meltsOf_L25
        rw [if_neg (by decide), m_mt (th := th) h9 hw hB, Option.bind_some, e, if_pos (show oI none = -1 from rfl), Option.bind_some, if_pos (show oI none = -1 from rfl), if00, Option.bind_some, if00, Option.bind_some, if00]
      unfold mr_ok
      refine (lp_l hb0).trans (m_end.trans ?_)
      rw [Int32.add_zero]
      rfl
    · have h1 := hI.2 b hb hdb hBb
      have := h9 b
      omega
  | succ d ih =>
    intro hd q n B mk N hB hI hq hN
    have := cn_le (th := th) (l := 9 - d)
    rw [show 10 - (d + 1) = 9 - d by omega] at hI
    exact m_gk (M := 2 + 33 * d) (nx := gl off (cn th) d) o0 ho (by omega) (by omega) h9 hw (fun q n B mk N a b c e => ih (by omega) q n B mk N a (by rw [show 10 - d = 9 - d + 1 by omega]; exact b) c e) (by omega) (cn th (9 - d)) q n B mk N hB (mi_ab hI) hq (by omega)
theorem m_melts {σ : fr_St} {th : Nat → Nat} {w q : Nat} (hw99 : w ≤ 99) (hq : q ≤ 99) (h9 : ∀ c, th c ≤ 9) (hw : ∀ c, c < 32 → σ 9 c = nI (th c)) : zX10_meltsOf σ (nI w) (nI q) = some (nI (if 0 < w / 10 then gl (w / 10) (cn th) 9 q else 0)) := by
  unfold zX10_meltsOf
  rw [show nI w / 10 = nI (w / 10) from pk_div (d := 10) (by omega) (by decide) (by decide)]
  have hw9 : w / 10 ≤ 9 := by omega
  by_cases h : 0 < w / 10
  · have := m_gl (σ := σ) (th := th) h hw9 h9 hw 9 (by omega) q 0 (fun _ => false) 0 fr_fu hs_0 ⟨fun c _ h => by simp at h, fun c _ h _ => by omega⟩ hq (by have := fr_fu_ge; omega)
    rw [if_neg (nI_nle h (by omega)), if_pos h, Option.bind_some]
    unfold mr_ok at this
    rw [Nat.zero_add] at this
    rw [show (nI q, (0 : Int32), (0 : Int32), (1 : Int32)) = (nI q, nI 0, 0, 1) from rfl, this, Option.bind_some]
  · rw [if_pos (by rw [nI_le0 (by omega)]; omega), if_neg h, Option.bind_some]
    obtain ⟨N, hN⟩ : ∃ M, fr_fu = M + 1 := ⟨fr_fu - 1, by have := fr_fu_ge; omega⟩
    rw [hN, m_end, Option.bind_some]
    rfl
theorem both_melts {ν : Nat → Nat → Nat} {σx σm : fr_St} (hR : Rs ν σx σm) (ht : mst ν (ν 0 19) σm) {w d k : Nat} (hw99 : w ≤ 99) (hd30 : d ≤ 30) (hk : k ≤ 99) (hwd : w + d ≤ 40) :
    ∃ r, zX9_melts σx (nI w) (nI d) (nI k) = some (r, σx) ∧ zX10_meltsOf σm (nI w) (nI k) = some r := by
  obtain ⟨g, th, lf, h, rfl, rfl, rfl, rfl, m18, m19, m20, m21, m6, m22, m7, m23⟩ := hR.2.2.2.2.2.1
  have m23' : ∀ l, 1 ≤ l → l < 10 → σx 23 l = nI (cn (vT ν) l) := m23
  have hw : ∀ c, c < 32 → σm 9 c = nI (vT ν c) := ht.2.2.2.2.2.1
  refine ⟨_, ?_, m_melts hw99 hk vT9 hw⟩
  unfold zX9_melts zX9_cracks
  rw [show zX9_within (nI w) 0 99 = 1 from wi_nI (m := 99) hw99 (by decide), if10, show zX9_within (nI d) 0 30 = 1 from wi_nI (m := 30) hd30 (by decide), if10, show zX9_within (nI k) 0 99 = 1 from wi_nI (m := 99) hk (by decide), if10, nI_add, if_pos (show nI (w + d) ≤ 40 from nI_le (b := 40) hwd (by decide)), if00, Rs_set hR, Option.bind_some]
  dsimp only
  rw [show nI w / 10 = nI (w / 10) from pk_div (d := 10) (by omega) (by decide) (by decide)]
  by_cases h : 0 < w / 10
  · rw [x_cups (f := cn (vT ν)) h (by omega) hk (fun l => cn_le) m23', Option.bind_some, if_pos h]
  · unfold zX1_clearedByCups
    rw [if_neg (show ¬ 0 < nI (w / 10) by rw [nI_lt0 (by omega)]; exact h), Option.bind_some, if_neg h]
    rfl
theorem ok_melts : sm_melts Rl := by
  rintro σx σm a1 a2 a3 ⟨ν, hn, hx, hm, hs, hd, ho, hf⟩
  have hR0 : Rl σx σm := ⟨ν, hn, hx, hm, hs, hd, ho, hf⟩
  unfold zX10_melts
  rw [in_0_99, in_0_30, in_0_99]
  rcases wi_c a1 (M := 99) (m := 99) rfl (by decide) with h1 | ⟨w, hw, rfl, h1⟩
  · exact ⟨-2, σx, σm, by unfold zX9_melts; rw [if_pos h1], by rw [if_pos h1], hR0⟩
  rw [h1, if10]
  rcases wi_c a2 (M := 30) (m := 30) rfl (by decide) with h2 | ⟨d, hd30, rfl, h2⟩
  · exact ⟨-2, σx, σm, by unfold zX9_melts; rw [h1, if10, if_pos h2], by rw [if_pos h2], hR0⟩
  rw [h2, if10]
  rcases wi_c a3 (M := 99) (m := 99) rfl (by decide) with h3 | ⟨k, hk, rfl, h3⟩
  · exact ⟨-2, σx, σm, by unfold zX9_melts; rw [h1, if10, h2, if10, if_pos h3], by rw [if_pos h3], hR0⟩
  rw [h3, if10]
  obtain ⟨σ2, e2, ht, hsc⟩ := ms_scrapes (k := ν 0 19) hn hm hn.2.2.2.2.2.1
  unfold zX10_scrapesAll
  rw [hm.2.2.2.2.2.1, e2, Option.bind_some, Option.bind_some, nI_add]
  by_cases h4 : w + d ≤ 40
  · rw [if_pos (show nI (w + d) ≤ 40 from nI_le (b := 40) h4 (by decide))]
    obtain ⟨σ', e, hR, hq⟩ := settled hn hx hm hs hd ho hf
    obtain ⟨r, x1, x2⟩ := both_melts (Rs_sc hR hsc) ht hw hd30 hk h4
    have ee : zX9_melts σx (nI w) (nI d) (nI k) = zX9_melts σ' (nI w) (nI d) (nI k) := by
      unfold zX9_melts zX9_cracks
      rw [h1, if10, if10, h2, if10, if10, h3, if10, if10, nI_add, if_pos (show nI (w + d) ≤ 40 from nI_le (b := 40) h4 (by decide)), if00, if00, e, Rs_set hR]
    exact ⟨r, σ', σ2, ee.trans x1, by rw [x2, Option.bind_some], Rs_Rl (Rs_sc hR hsc)⟩
  · rw [if_neg (show ¬ nI (w + d) ≤ 40 from nI_ge (a := 40) (by omega) (by omega))]
    refine ⟨-3, σx, σ2, ?_, rfl, Rl_sc hR0 hsc⟩
    unfold zX9_melts zX9_cracks
    rw [h1, if10, h2, if10, h3, if10, nI_add, if_neg (show ¬ nI (w + d) ≤ 40 from nI_ge (a := 40) (by omega) (by omega)), if10]
