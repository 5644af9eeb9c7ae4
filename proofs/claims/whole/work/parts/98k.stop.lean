/-! first, stop: both -/
theorem Rs_set {ν : Nat → Nat → Nat} {σx σm : fr_St} (h : Rs ν σx σm) : zX9_settled σx = some (0, σx) := by
  unfold zX9_settled
  rw [if_pos h.2.2.2.2.2.2.1]
theorem mst_rows {ν : Nat → Nat → Nat} {k : Nat} {σ σ' : fr_St} (h : mst ν k σ) (e : ∀ q ∈ [0, 7, 8, 9, 10, 15], σ' q = σ q) : mst ν k σ' := by
  unfold mst pcm at h ⊢
  simp only [e 0 (by decide), e 7 (by decide), e 8 (by decide), e 9 (by decide), e 10 (by decide), e 15 (by decide)]
  exact h
def vT (ν : Nat → Nat → Nat) : Nat → Nat := (mo_s (pn (ν 5) (ν 6 0)).2.2.2 (ν 12) (ν 14) (ν 0 19)).1
def vH (ν : Nat → Nat → Nat) : Nat → Nat := mo_h (fun i => ν 5 (40 + i)) (ν 6 1) (ν 13)
theorem vT9 {ν : Nat → Nat → Nat} (c : Nat) : vT ν c ≤ 9 := Nat.le_trans ((mo_le _).1 c) pn_g9
/-- what the reference finds first, in a state that is scraped -/
theorem r_first {ν : Nat → Nat → Nat} {σx σm : fr_St} (hR : Rs ν σx σm) (ht : mst ν (ν 0 19) σm) {t : Nat} (ht4 : t < 4) :
    ∃ p f : Nat → Int32, zX10_findFirst σm (nI t) = some (nI (mo_o (vH ν) (vT ν) 32).length, fr_row (fr_row σm 17 p) 16 f) ∧ (∀ c, c < 32 → p c = nI (if 0 < vT ν c then vH ν c else 0)) ∧ (∀ j, j < (mo_o (vH ν) (vT ν) 32).length → f j = nI ((mo_o (vH ν) (vT ν) 32).getD j 0)) ∧ msc σm (fr_row (fr_row σm 17 p) 16 f) ∧ mst ν (ν 0 19) (fr_row (fr_row σm 17 p) 16 f) := by
  have hn := hR.1
  obtain ⟨p, f, e, hp, hf⟩ := m_first (T := fun i => ν 5 (40 + i)) (lk := ν 13) (th := vT ν) (n := ν 6 1) (σ := σm) (t := t) (s := ν 11 t) ht4 (hn.2.2.1 t ht4).1 (hn.2.2.1 t ht4).2 hn.1.2 ht.2.2.2.1 ht.2.2.2.2.1 vT9 hn.2.2.2.2.1 hR.2.2.1.2.2.2.2.1 ht.2.2.2.2.2.1 (hR.2.2.1.2.2.1 t ht4)
  refine ⟨p, f, e, hp, hf, msc_row (msc_row msc_rf (by omega)) (by omega), mst_rows ht (fun q hq => ?_)⟩
  rw [fr_row_at, if_neg (by rintro rfl; revert hq; decide), fr_row_at, if_neg (by rintro rfl; revert hq; decide)]
theorem both_first {ν : Nat → Nat → Nat} {σx σm : fr_St} (hR : Rs ν σx σm) (ht : mst ν (ν 0 19) σm) {t : Nat} (ht4 : t < 4) {a2 : Int32} (h2 : ¬ zX9_within a2 (-1) 31 = 0) :
    ∃ r σm', zX9_first σx (nI t) a2 = some (r, σx) ∧ zX10_firstOf σm (nI t) a2 = some (r, σm') ∧ Rs ν σx σm' ∧ mst ν (ν 0 19) σm' := by
  obtain ⟨p, f, e, hp, hf, hsc, hmt⟩ := r_first hR ht ht4
  obtain ⟨g, th, lf, h, rfl, rfl, rfl, rfl, m18, m19, m20, m21, m6, m22, m7, m23⟩ := hR.2.2.2.2.2.1
  have io := (mo_o_ok (h := vH ν) (th := vT ν) 32).1
  have m6' : σx 17 6 = nI (mo_o (vH ν) (vT ν) 32).length := m6
  have m22' : ∀ i, i < (mo_o (vH ν) (vT ν) 32).length → σx 22 i = nI ((mo_o (vH ν) (vT ν) 32).getD i 0) := m22
  generalize mo_o (vH ν) (vT ν) 32 = L at *
  unfold zX9_first zX10_firstOf zX9_isTool
  rw [e, Option.bind_some, show zX9_within (nI t) 0 3 = 1 from wi_nI (m := 3) (by omega) (by decide), if10, if_neg h2, Rs_set hR, Option.bind_some]
  dsimp only
  simp only [m6']
  rcases wi_cm a2 (M := 31) (m := 31) rfl (by decide) with h0 | ⟨rfl, _⟩ | ⟨j, hj, rfl, _⟩
  · exact absurd h0 h2
  · rw [if_pos rfl, if_pos rfl]
    exact ⟨_, _, rfl, rfl, Rs_sc hR hsc, hmt⟩
  · rw [if_neg (nI_m1 (by omega)), if_neg (nI_m1 (by omega))]
    by_cases hl : L.length ≤ j
    · rw [if_pos (nI_le hl (by omega)), if_pos (nI_le hl (by omega))]
      exact ⟨_, _, rfl, rfl, Rs_sc hR hsc, hmt⟩
    · rw [if_neg (nI_ge (by omega) (by omega)), if_neg (nI_ge (by omega) (by omega)), fr_al_nI (show j < 32 by omega) (by decide), fr_al_nI (show j < 32 by omega) (by decide), Option.bind_some, Option.bind_some, m22' j (by omega), fr_row_self, hf j (by omega)]
      exact ⟨_, _, rfl, rfl, Rs_sc hR hsc, hmt⟩
theorem ok_first : sm_first Rl := by
  rintro σx σm a1 a2 ⟨ν, hn, hx, hm, hs, hd, ho, hf⟩
  have hR0 : Rl σx σm := ⟨ν, hn, hx, hm, hs, hd, ho, hf⟩
  obtain ⟨σ2, e2, ht, hsc⟩ := ms_scrapes (k := ν 0 19) hn hm hn.2.2.2.2.2.1
  unfold zX10_first zX10_scrapesAll
  rw [hm.2.2.2.2.2.1, e2, Option.bind_some, Option.bind_some, in_isTool, in_m1_31]
  rcases wi_c a1 (M := 3) (m := 3) rfl (by decide) with h1 | ⟨t, ht4, rfl, h1⟩
  · exact ⟨-2, σx, σ2, by unfold zX9_first zX9_isTool; rw [if_pos h1], by rw [if_pos h1], Rl_sc hR0 hsc⟩
  rw [h1, if10]
  by_cases h2 : zX9_within a2 (-1) 31 = 0
  · exact ⟨-2, σx, σ2, by unfold zX9_first zX9_isTool; rw [h1, if10, if_pos h2], by rw [if_pos h2], Rl_sc hR0 hsc⟩
  rw [if_neg h2]
  obtain ⟨σ', e, hR, hq⟩ := settled hn hx hm hs hd ho hf
  obtain ⟨r, σ3, x1, x2, x3, _⟩ := both_first (Rs_sc hR hsc) ht (show t < 4 by omega) h2
  have ee : zX9_first σx (nI t) a2 = zX9_first σ' (nI t) a2 := by
    unfold zX9_first zX9_isTool
    rw [h1, if10, if10, if_neg h2, if_neg h2, e, Rs_set hR]
  exact ⟨r, σ', σ3, ee.trans x1, by rw [x2, Option.bind_some], Rs_Rl x3⟩
/-! stop -/
def iI (z : Int) : Int32 := Int32.ofInt z
theorem iI_n (n : Nat) : nI n = iI n := Int32.ofInt_eq_ofNat.symm
theorem iI_a (a b : Int) : iI a + iI b = iI (a + b) := (Int32.ofInt_add a b).symm
theorem iI_s (a b : Int) : iI a - iI b = iI (a - b) := (Int32.ofInt_sub a b).symm
theorem iI_m (a b : Int) : iI a * iI b = iI (a * b) := (Int32.ofInt_mul a b).symm
theorem iI_t {a : Int} (h1 : -1000000000 ≤ a) (h2 : a ≤ 1000000000) : (iI a).toInt = a := Int32.toInt_ofInt_of_le (by omega) (by omega)
theorem iI_le {a b : Int} (h1 : -1000000000 ≤ a) (h2 : a ≤ 1000000000) (h3 : -1000000000 ≤ b) (h4 : b ≤ 1000000000) : iI a ≤ iI b ↔ a ≤ b := by
  rw [Int32.le_iff_toInt_le, iI_t h1 h2, iI_t h3 h4]
/-- the least of the changes, the first of those that are alike -/
def bs (D : Nat → Int) : Nat → Nat
  | 0 => 0
  | i + 1 => if D (bs D i) ≤ D (i + 1) then bs D i else i + 1
theorem bs_le {D : Nat → Int} : ∀ i, bs D i ≤ i
  | 0 => Nat.le_refl _
  | i + 1 => by
    have := bs_le (D := D) i
    unfold bs
    split <;> omega
def st_A (th : Nat → Nat) (L : List Nat) (i : Nat) : Nat := su (fun j => th (L.getD j 0)) i
/-- how much more is paid when i cells are scraped -/
def st_D (h th : Nat → Nat) (L : List Nat) (cs v : Nat) (i : Nat) : Int := ((cs * st_A th L i : Nat) : Int) - ((v * st_A h L i : Nat) : Int)
theorem st_A_le {th : Nat → Nat} {L : List Nat} {i k : Nat} (hk : ∀ j, j < i → th (L.getD j 0) ≤ k) : st_A th L i ≤ i * k := su_le hk
theorem st_D_s {h th : Nat → Nat} {L : List Nat} {cs v i : Nat} : st_D h th L cs v (i + 1) = st_D h th L cs v i + (((cs * th (L.getD i 0) : Nat) : Int) - ((v * h (L.getD i 0) : Nat) : Int)) := by
  unfold st_D
  have e1 : st_A th L (i + 1) = st_A th L i + th (L.getD i 0) := rfl
  have e2 : st_A h L (i + 1) = st_A h L i + h (L.getD i 0) := rfl
  rw [e1, e2, Nat.mul_add, Nat.mul_add]
  omega
theorem st_D_b {h th : Nat → Nat} {L : List Nat} {cs v i : Nat} (hi : i ≤ 32) (hcs : cs ≤ 5940) (hv : v ≤ 99) (h9 : ∀ j, j < i → th (L.getD j 0) ≤ 9) (hh : ∀ j, j < i → h (L.getD j 0) ≤ 1800) : -10000000 ≤ st_D h th L cs v i ∧ st_D h th L cs v i ≤ 10000000 := by
  have a1 := st_A_le h9
  have a2 := st_A_le hh
  have c1 : st_A th L i ≤ 288 := by omega
  have c2 : st_A h L i ≤ 57600 := by omega
  have b1 : cs * st_A th L i ≤ 5940 * 288 := Nat.mul_le_mul hcs c1
  have b2 : v * st_A h L i ≤ 99 * 57600 := Nat.mul_le_mul hv c2
  unfold st_D
  omega
theorem x_cAt {g : Nat → Option Nat} {h th : Nat → Nat} {σ : fr_St} {c cs v : Nat} (hc : c < 32) (h0 : ∀ c, g c = none → th c = 0) (t0 : 0 < th c) (h21 : ∀ c, c < 32 → σ 21 c = nI (h c)) (h19 : ∀ c, c < 32 → σ 19 c = oT g th c) : zX1_changeAt σ (nI c) (nI cs) (nI v) = some (iI (((cs * th c : Nat) : Int) - ((v * h c : Nat) : Int))) := by
  unfold zX1_changeAt
  rw [fr_al_nI hc (by decide), Option.bind_some, fr_al_nI hc (by decide), Option.bind_some, h19 c hc, h21 c hc, oT_nI (h0 c) t0, pk_mul, pk_mul, iI_n, iI_n, iI_s]
theorem x_cheap {g : Nat → Option Nat} {h th : Nat → Nat} {σ : fr_St} {L : List Nat} {cs v : Nat} (hL : mo_ok h th 32 L) (hcs : cs ≤ 5940) (hv : v ≤ 99) (h9 : ∀ c, th c ≤ 9) (hh : ∀ c, c < 32 → h c ≤ 1800) (h0 : ∀ c, g c = none → th c = 0) (h21 : ∀ c, c < 32 → σ 21 c = nI (h c)) (h19 : ∀ c, c < 32 → σ 19 c = oT g th c) (h6 : σ 17 6 = nI L.length) (h22 : ∀ i, i < L.length → σ 22 i = nI (L.getD i 0)) :
    zX1_cheapestStop σ (nI cs) (nI v) = some (nI (bs (st_D h th L cs v) L.length)) := by
  have hlen := hL.1
  have bd := fun i (hi : i ≤ L.length) => st_D_b (h := h) (th := th) (L := L) (cs := cs) (v := v) (i := i) (by omega) hcs hv (fun j _ => h9 _) (fun j hj => hh _ (hL.2.2 j (by omega)).1)
  unfold zX1_cheapestStop
  have hl := lp_seq (body := fun (b1 : Int32 × Int32 × Int32 × Int32) => zX1_cheapestStop_L11 σ (nI cs) (nI v) b1.1 b1.2.1 b1.2.2.1 b1.2.2.2) (fun i => (nI (bs (st_D h th L cs v) i), iI (st_D h th L cs v (bs (st_D h th L cs v) i)), iI (st_D h th L cs v i), nI i)) L.length (nI (bs (st_D h th L cs v) L.length)) (by omega) (fun i hi => by
      show zX1_cheapestStop_L11 σ (nI cs) (nI v) (nI (bs (st_D h th L cs v) i)) (iI (st_D h th L cs v (bs (st_D h th L cs v) i))) (iI (st_D h th L cs v i)) (nI i) = some (.inl (nI (if st_D h th L cs v (bs (st_D h th L cs v) i) ≤ st_D h th L cs v (i + 1) then bs (st_D h th L cs v) i else i + 1), iI (st_D h th L cs v (if st_D h th L cs v (bs (st_D h th L cs v) i) ≤ st_D h th L cs v (i + 1) then bs (st_D h th L cs v) i else i + 1)), iI (st_D h th L cs v (i + 1)), nI (i + 1)))
      have hk := hL.2.2 i hi
      have b1 := bd (bs (st_D h th L cs v) i) (by have := bs_le (D := st_D h th L cs v) i; omega)
      have b2 := bd (i + 1) (by omega)
      unfold zX1_cheapestStop_L11
      rw [h6, if_neg (nI_ge hi (by omega)), fr_al_nI (show i < 32 by omega) (by decide), Option.bind_some, h22 i hi, x_cAt hk.1 h0 hk.2.1 h21 h19, Option.bind_some, iI_a, ← st_D_s, nI_1]
      by_cases hc : st_D h th L cs v (bs (st_D h th L cs v) i) ≤ st_D h th L cs v (i + 1)
      · rw [if_pos ((iI_le (by omega) (by omega) (by omega) (by omega)).mpr hc), if_pos hc]
      · rw [if_neg (fun k => hc ((iI_le (by omega) (by omega) (by omega) (by omega)).mp k)), if_neg hc]) (by
      show zX1_cheapestStop_L11 σ (nI cs) (nI v) _ _ _ (nI L.length) = _
      unfold zX1_cheapestStop_L11
      rw [h6, if_pos (nI_le (Nat.le_refl _) (by omega))]) 0 (by omega)
  have e0 : st_D h th L cs v 0 = 0 := by
    unfold st_D st_A
    simp [su]
  rw [show fr_loop (fun (b1 : Int32 × Int32 × Int32 × Int32) => zX1_cheapestStop_L11 σ (nI cs) (nI v) b1.1 b1.2.1 b1.2.2.1 b1.2.2.2) fr_fu (0, 0, 0, 0) = some (nI (bs (st_D h th L cs v) L.length)) by
    rw [← hl]
    show _ = fr_loop _ fr_fu (nI 0, iI (st_D h th L cs v 0), iI (st_D h th L cs v 0), nI 0)
    rw [e0]
    rfl, Option.bind_some]
theorem x_change {g : Nat → Option Nat} {h th : Nat → Nat} {σ : fr_St} {L : List Nat} {cs v m : Nat} (hL : mo_ok h th 32 L) (hm : m ≤ L.length) (h0 : ∀ c, g c = none → th c = 0) (h21 : ∀ c, c < 32 → σ 21 c = nI (h c)) (h19 : ∀ c, c < 32 → σ 19 c = oT g th c) (h6 : σ 17 6 = nI L.length) (h22 : ∀ i, i < L.length → σ 22 i = nI (L.getD i 0)) :
    zX1_change σ (nI m) (nI cs) (nI v) = some (iI (st_D h th L cs v m)) := by
  have hlen := hL.1
  unfold zX1_change
  have hl := lp_seq (body := fun (b1 : Int32 × Int32) => zX1_change_L6 σ (nI m) (nI cs) (nI v) b1.1 b1.2) (fun i => (iI (st_D h th L cs v i), nI i)) m (iI (st_D h th L cs v m)) (by omega) (fun i hi => by
      show zX1_change_L6 σ (nI m) (nI cs) (nI v) (iI (st_D h th L cs v i)) (nI i) = some (.inl (iI (st_D h th L cs v (i + 1)), nI (i + 1)))
      have hk := hL.2.2 i (by omega)
      unfold zX1_change_L6
      rw [if_neg (nI_ge hi (by omega)), h6, if_neg (nI_ge (show i < L.length by omega) (by omega)), fr_al_nI (show i < 32 by omega) (by decide), Option.bind_some, h22 i (by omega), x_cAt hk.1 h0 hk.2.1 h21 h19, Option.bind_some, iI_a, ← st_D_s, nI_1]) (by
      show zX1_change_L6 σ (nI m) (nI cs) (nI v) _ (nI m) = _
      unfold zX1_change_L6
      rw [if_pos (nI_le (Nat.le_refl _) (by omega))]) 0 (by omega)
  have e0 : st_D h th L cs v 0 = 0 := by
    unfold st_D st_A
    simp [su]
  rw [show fr_loop (fun (b1 : Int32 × Int32) => zX1_change_L6 σ (nI m) (nI cs) (nI v) b1.1 b1.2) fr_fu (0, 0) = some (iI (st_D h th L cs v m)) by
    rw [← hl]
    show _ = fr_loop _ fr_fu (iI (st_D h th L cs v 0), nI 0)
    rw [e0]
    rfl, Option.bind_some]
theorem m_stop {h th : Nat → Nat} {σ : fr_St} {L : List Nat} {t s c v R : Nat} {k4 : Int32} (hL : mo_ok h th 32 L) (ht : t < 4) (hs : s ≤ 60) (hc : c ≤ 99) (hv : v ≤ 99) (hRb : R ≤ 57600) (h9 : ∀ c, th c ≤ 9) (hh : ∀ c, c < 32 → h c ≤ 1800) (h16 : ∀ i, i < L.length → σ 16 i = nI (L.getD i 0)) (h17 : ∀ c, c < 32 → σ 17 c = nI (if 0 < th c then h c else 0)) (hw : ∀ c, c < 32 → σ 9 c = nI (th c)) (h11 : σ 11 t = nI s) :
    fr_loop (fun (b4 : Int32 × Int32 × Int32 × Int32 × Int32) => zX10_stopOf_L28 σ (nI t) (nI c) (nI v) k4 (nI L.length) b4.1 b4.2.1 b4.2.2.1 b4.2.2.2.1 b4.2.2.2.2) fr_fu (nI R, 0, 0, nI v * nI R, 0) = some (nI (bs (st_D h th L (c * s) v) L.length), iI ((v : Int) * (R : Int) + st_D h th L (c * s) v (bs (st_D h th L (c * s) v) L.length))) := by
  have hlen := hL.1
  have hcs : c * s ≤ 5940 := Nat.mul_le_mul hc hs
  have bd := fun i (hi : i ≤ L.length) => st_D_b (h := h) (th := th) (L := L) (cs := c * s) (v := v) (i := i) (by omega) hcs hv (fun j _ => h9 _) (fun j hj => hh _ (hL.2.2 j (by omega)).1)
  have hvR : v * R ≤ 99 * 57600 := Nat.mul_le_mul hv hRb
  have hvR' : (v : Int) * (R : Int) = ((v * R : Nat) : Int) := by simp
  have hl := lp_seq (body := fun (b4 : Int32 × Int32 × Int32 × Int32 × Int32) => zX10_stopOf_L28 σ (nI t) (nI c) (nI v) k4 (nI L.length) b4.1 b4.2.1 b4.2.2.1 b4.2.2.2.1 b4.2.2.2.2) (fun i => (iI ((R : Int) - (st_A h L i : Int)), nI (st_A th L i * s), nI (bs (st_D h th L (c * s) v) i), iI ((v : Int) * (R : Int) + st_D h th L (c * s) v (bs (st_D h th L (c * s) v) i)), nI i)) L.length _ (by omega) (fun i hi => by
      show zX10_stopOf_L28 σ (nI t) (nI c) (nI v) k4 (nI L.length) (iI ((R : Int) - (st_A h L i : Int))) (nI (st_A th L i * s)) (nI (bs (st_D h th L (c * s) v) i)) (iI ((v : Int) * (R : Int) + st_D h th L (c * s) v (bs (st_D h th L (c * s) v) i))) (nI i) = some (.inl (iI ((R : Int) - (st_A h L (i + 1) : Int)), nI (st_A th L (i + 1) * s), nI (if st_D h th L (c * s) v (bs (st_D h th L (c * s) v) i) ≤ st_D h th L (c * s) v (i + 1) then bs (st_D h th L (c * s) v) i else i + 1), iI ((v : Int) * (R : Int) + st_D h th L (c * s) v (if st_D h th L (c * s) v (bs (st_D h th L (c * s) v) i) ≤ st_D h th L (c * s) v (i + 1) then bs (st_D h th L (c * s) v) i else i + 1)), nI (i + 1)))
      have hk := hL.2.2 i hi
      have b1 := bd (bs (st_D h th L (c * s) v) i) (by have := bs_le (D := st_D h th L (c * s) v) i; omega)
      have b2 := bd (i + 1) (by omega)
      have e1 : st_A th L (i + 1) = st_A th L i + th (L.getD i 0) := rfl
      have e2 : st_A h L (i + 1) = st_A h L i + h (L.getD i 0) := rfl
      have e3 : iI ((R : Int) - (st_A h L i : Int)) - nI (h (L.getD i 0)) = iI ((R : Int) - (st_A h L (i + 1) : Int)) := by
        rw [iI_n, iI_s, e2]
        congr 1
        omega
      have e4 : nI (st_A th L i * s) + nI (th (L.getD i 0)) * nI s = nI (st_A th L (i + 1) * s) := by
        rw [pk_mul, nI_add, e1, Nat.add_mul]
      have e5 : nI c * nI (st_A th L (i + 1) * s) + nI v * iI ((R : Int) - (st_A h L (i + 1) : Int)) = iI ((v : Int) * (R : Int) + st_D h th L (c * s) v (i + 1)) := by
        rw [pk_mul, iI_n, iI_n, iI_m, iI_a]
        congr 1
        unfold st_D
        rw [Int.mul_sub, show c * (st_A th L (i + 1) * s) = c * s * st_A th L (i + 1) by rw [Nat.mul_assoc, Nat.mul_comm s]]
        have : ((v * st_A h L (i + 1) : Nat) : Int) = (v : Int) * (st_A h L (i + 1) : Int) := by simp
        rw [this]
        omega
      unfold zX10_stopOf_L28
      rw [if_neg (nI_ge hi (by omega)), fr_al_nI (show i < 32 by omega) (by decide), Option.bind_some, h16 i hi, fr_al_nI hk.1 (by decide), Option.bind_some, Option.bind_some, fr_al_nI hk.1 (by decide), Option.bind_some, fr_al_nI ht (by decide), Option.bind_some, h17 _ hk.1, if_pos hk.2.1, hw _ hk.1, h11, e3, e4, e5, nI_1]
      unfold zX10_lesser
      by_cases hq : st_D h th L (c * s) v (bs (st_D h th L (c * s) v) i) ≤ st_D h th L (c * s) v (i + 1)
      · have hq' : iI ((v : Int) * (R : Int) + st_D h th L (c * s) v (bs (st_D h th L (c * s) v) i)) ≤ iI ((v : Int) * (R : Int) + st_D h th L (c * s) v (i + 1)) := (iI_le (by omega) (by omega) (by omega) (by omega)).mpr (by omega)
        rw [if_pos hq', if_pos hq', if_pos hq]
      · have hq' : ¬ iI ((v : Int) * (R : Int) + st_D h th L (c * s) v (bs (st_D h th L (c * s) v) i)) ≤ iI ((v : Int) * (R : Int) + st_D h th L (c * s) v (i + 1)) := fun k => hq (by have := (iI_le (by omega) (by omega) (by omega) (by omega)).mp k; omega)
        rw [if_neg hq', if_neg hq', if_neg hq]) (by
      show zX10_stopOf_L28 σ (nI t) (nI c) (nI v) k4 (nI L.length) _ _ _ _ (nI L.length) = _
      unfold zX10_stopOf_L28
      rw [if_pos (nI_le (Nat.le_refl _) (by omega))]) 0 (by omega)
  rw [← hl]
  have e0 : st_D h th L (c * s) v 0 = 0 := by
    unfold st_D st_A
    simp [su]
  show _ = fr_loop _ fr_fu (iI ((R : Int) - (st_A h L 0 : Int)), nI (st_A th L 0 * s), nI 0, iI ((v : Int) * (R : Int) + st_D h th L (c * s) v 0), nI 0)
  rw [e0, show st_A h L 0 = 0 from rfl, show st_A th L 0 = 0 from rfl, Nat.zero_mul, Int.add_zero, pk_mul, hvR', iI_n R, iI_n (v * R), show (R : Int) - ((0 : Nat) : Int) = (R : Int) by omega]
  rfl
theorem both_stop {ν : Nat → Nat → Nat} {σx σm : fr_St} (hR : Rs ν σx σm) (ht : mst ν (ν 0 19) σm) {t c v : Nat} (ht4 : t < 4) (hc : c ≤ 99) (hv : v ≤ 99) {a4 : Int32} (h4 : ¬ zX9_within a4 0 1 = 0) :
    ∃ r σm', zX9_stop σx (nI t) (nI c) (nI v) a4 = some (r, σx) ∧ zX10_stopOf σm (nI t) (nI c) (nI v) a4 = some (r, σm') ∧ Rs ν σx σm' ∧ mst ν (ν 0 19) σm' := by
  have hn := hR.1
  obtain ⟨p, f, e, hp, hf, hsc, hmt⟩ := r_first hR ht ht4
  have hR' := Rs_sc hR hsc
  have hrisk := m_road (T := fun i => ν 5 (40 + i)) (lk := ν 13) (th := vT ν) (σ := fr_row (fr_row σm 17 p) 16 f) hn.1.2 hmt.2.2.2.1 hmt.2.2.2.2.1 vT9 hR'.2.2.1.2.2.2.2.1 hmt.2.2.2.2.2.1
  obtain ⟨g, th, lf, h, rfl, rfl, rfl, rfl, m18, m19, m20, m21, m6, m22, m7, m23⟩ := hR.2.2.2.2.2.1
  have hrx := x_rb (g := (pn (ν 5) (ν 6 0)).2.2.2) (hol := ν 12) (sk := ν 14) (σ := σx) (k := ν 0 19) hn.2.2.2.2.2.1 (fun c => pn_g9) hn.2.2.2.2.2.2.1 hR.2.2.2.2.1.1.2.1 m21 (fun i hi => m18 i (by omega)) (fun i hi => (hR.2.1.2.2.2.2.2.2.2.1 i hi).2)
  have io := mo_o_ok (h := vH ν) (th := vT ν) 32
  have m6' : σx 17 6 = nI (mo_o (vH ν) (vT ν) 32).length := m6
  have m22' : ∀ i, i < (mo_o (vH ν) (vT ν) 32).length → σx 22 i = nI ((mo_o (vH ν) (vT ν) 32).getD i 0) := m22
  have hh : ∀ c, c < 32 → vH ν c ≤ 1800 := fun c hc => mo_h_le hn.1.2 hn.2.2.2.2.1 hc
  have hsec := hn.2.2.1 t ht4
  have hcs : c * ν 11 t ≤ 5940 := Nat.mul_le_mul hc hsec.2
  have hRb : su (fun c => if 0 < vT ν c then vH ν c else 0) 32 ≤ 57600 := by
    have := su_le (f := fun c => if 0 < vT ν c then vH ν c else 0) (k := 1800) (n := 32) (fun c hc => by have := hh c hc; split <;> omega)
    omega
  have ch := x_cheap (g := (pn (ν 5) (ν 6 0)).2.2.2) (h := vH ν) (th := vT ν) (σ := σx) (cs := c * ν 11 t) (v := v) io hcs hv vT9 hh (fun c h => mo_0 h) m21 m19 m6' m22'
  have cg := x_change (g := (pn (ν 5) (ν 6 0)).2.2.2) (h := vH ν) (th := vT ν) (σ := σx) (cs := c * ν 11 t) (v := v) io (bs_le (D := st_D (vH ν) (vT ν) (mo_o (vH ν) (vT ν) 32) (c * ν 11 t) v) (mo_o (vH ν) (vT ν) 32).length) (fun c h => mo_0 h) m21 m19 m6' m22'
  have ms := m_stop (h := vH ν) (th := vT ν) (σ := fr_row (fr_row σm 17 p) 16 f) (t := t) (s := ν 11 t) (c := c) (v := v) (R := su (fun c => if 0 < vT ν c then vH ν c else 0) 32) (k4 := a4) io ht4 hsec.2 hc hv hRb vT9 hh (fun i hi => by rw [fr_row_self]; exact hf i hi) (fun c hc => by rw [fr_row_ne (by decide), fr_row_self]; exact hp c hc) hmt.2.2.2.2.2.1 (hR'.2.2.1.2.2.1 t ht4)
  have hrx' : zX1_riskBehind σx (nI (ν 0 19)) = some (nI (su (fun c => if 0 < vT ν c then vH ν c else 0) 32)) := hrx
  have hrisk' : zX10_riskOfRoad (fr_row (fr_row σm 17 p) 16 f) = some (nI (su (fun c => if 0 < vT ν c then vH ν c else 0) 32)) := hrisk
  unfold zX9_stop zX10_stopOf zX9_isTool zX9_isPair
  rw [e, Option.bind_some, show zX9_within (nI t) 0 3 = 1 from wi_nI (m := 3) (by omega) (by decide), if10, show zX9_within (nI c) 0 99 = 1 from wi_nI (m := 99) (by omega) (by decide), if10, show zX9_within (nI v) 0 99 = 1 from wi_nI (m := 99) (by omega) (by decide), if10, if_neg h4, Rs_set hR, Option.bind_some]
  dsimp only
  rw [fr_al_nI ht4 (by decide), Option.bind_some, hR.2.1.2.2.2.1 t ht4, pk_mul, ch, Option.bind_some, hrisk', Option.bind_some, ms, Option.bind_some]
  dsimp only
  by_cases z : a4 = 0
  · rw [if_pos z, if_pos z]
    exact ⟨_, _, rfl, rfl, hR', hmt⟩
  · rw [if_neg z, if_neg z, hR.2.1.2.2.2.2.2.2.1, hrx', Option.bind_some, cg, Option.bind_some, pk_mul, iI_n, iI_a]
    refine ⟨_, _, rfl, ?_, hR', hmt⟩
    simp
theorem ok_stop : sm_stop Rl := by
  rintro σx σm a1 a2 a3 a4 ⟨ν, hn, hx, hm, hs, hd, ho, hf⟩
  have hR0 : Rl σx σm := ⟨ν, hn, hx, hm, hs, hd, ho, hf⟩
  obtain ⟨σ2, e2, ht, hsc⟩ := ms_scrapes (k := ν 0 19) hn hm hn.2.2.2.2.2.1
  unfold zX10_stop zX10_scrapesAll
  rw [hm.2.2.2.2.2.1, e2, Option.bind_some, Option.bind_some, in_isTool, in_0_99, in_0_99, in_isTwo]
  rcases wi_c a1 (M := 3) (m := 3) rfl (by decide) with h1 | ⟨t, ht4, rfl, h1⟩
  · exact ⟨-2, σx, σ2, by unfold zX9_stop zX9_isTool; rw [if_pos h1], by rw [if_pos h1], Rl_sc hR0 hsc⟩
  rw [h1, if10]
  rcases wi_c a2 (M := 99) (m := 99) rfl (by decide) with h2 | ⟨c, hc, rfl, h2⟩
  · exact ⟨-2, σx, σ2, by unfold zX9_stop zX9_isTool; rw [h1, if10, if_pos h2], by rw [if_pos h2], Rl_sc hR0 hsc⟩
  rw [h2, if10]
  rcases wi_c a3 (M := 99) (m := 99) rfl (by decide) with h3 | ⟨v, hv, rfl, h3⟩
  · exact ⟨-2, σx, σ2, by unfold zX9_stop zX9_isTool; rw [h1, if10, h2, if10, if_pos h3], by rw [if_pos h3], Rl_sc hR0 hsc⟩
  rw [h3, if10]
  by_cases h4 : zX9_within a4 0 1 = 0
  · exact ⟨-2, σx, σ2, by unfold zX9_stop zX9_isTool zX9_isPair; rw [h1, if10, h2, if10, h3, if10, if_pos h4], by rw [if_pos h4], Rl_sc hR0 hsc⟩
  rw [if_neg h4]
  obtain ⟨σ', e, hR, hq⟩ := settled hn hx hm hs hd ho hf
  obtain ⟨r, σ3, x1, x2, x3, _⟩ := both_stop (Rs_sc hR hsc) ht (show t < 4 by omega) hc hv h4
  have ee : zX9_stop σx (nI t) (nI c) (nI v) a4 = zX9_stop σ' (nI t) (nI c) (nI v) a4 := by
    unfold zX9_stop zX9_isTool zX9_isPair
    rw [h1, if10, if10, h2, if10, if10, h3, if10, if10, if_neg h4, if_neg h4, e, Rs_set hR]
  exact ⟨r, σ', σ3, ee.trans x1, by rw [x2, Option.bind_some], Rs_Rl x3⟩
