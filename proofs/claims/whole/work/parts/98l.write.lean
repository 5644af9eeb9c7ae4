/-! write -/
def wr (σ : fr_St) (q b : Nat) (v : Nat → Int32) : Nat → fr_St
  | 0 => σ
  | i + 1 => fr_put (wr σ q b v i) q (b + i) (v i)
theorem wr_ne {σ : fr_St} {q b a : Nat} {v : Nat → Int32} (h : a ≠ q) : ∀ i, wr σ q b v i a = σ a
  | 0 => rfl
  | i + 1 => by
    show fr_put (wr σ q b v i) q (b + i) (v i) a = σ a
    rw [fr_put_at, if_neg h]
    exact wr_ne h i
theorem Rl_wr {σx σm : fr_St} {s n : Nat} {v : Nat → Int32} (hR : Rl σx σm) (hs4 : s < 4) (hn : n ≤ 60) (x2 : σx (30 + s) 2 = nI n) : ∀ i, i ≤ n → Rl (wr σx (34 + s) 0 v i) (wr σm 3 (60 * s) v i)
  | 0, _ => hR
  | i + 1, hi => by
    have ih := Rl_wr (v := v) hR hs4 hn x2 i (by omega)
    have := Rl_lay ih hs4 (v i) (i := i) (n := n) (by omega) hn (by rw [wr_ne (by omega)]; exact x2)
    show Rl (fr_put (wr σx (34 + s) 0 v i) (34 + s) (0 + i) (v i)) (fr_put (wr σm 3 (60 * s) v i) 3 (60 * s + i) (v i))
    rw [Nat.zero_add]
    exact this
theorem x_wr {σ : fr_St} {s f m : Nat} {L : List Nat} (hs4 : s < 4) (hf : f ≤ 2) (hm : m ≤ 32) (e1 : σ (30 + s) 1 = nI f) (h22 : ∀ i, i < m → σ 22 i = nI (L.getD i 0)) :
    fr_loop (fun (b4 : Int32 × fr_St) => zX9_write_L60 s (nI m) b4.1 b4.2) fr_fu (0, σ) = some (wr σ (34 + s) 0 (fun i => zX10_cut (nI f) (nI (L.getD i 0))) m) :=
  lp_seq (body := fun (b4 : Int32 × fr_St) => zX9_write_L60 s (nI m) b4.1 b4.2) (fun i => (nI i, wr σ (34 + s) 0 (fun i => zX10_cut (nI f) (nI (L.getD i 0))) i)) m _ (by omega) (fun i hi => by
      show zX9_write_L60 s (nI m) (nI i) (wr σ (34 + s) 0 (fun i => zX10_cut (nI f) (nI (L.getD i 0))) i) = some (.inl (nI (i + 1), fr_put (wr σ (34 + s) 0 (fun i => zX10_cut (nI f) (nI (L.getD i 0))) i) (34 + s) (0 + i) (zX10_cut (nI f) (nI (L.getD i 0)))))
      unfold zX9_write_L60
      rw [if_neg (nI_ge hi (by omega)), fr_al_nI (show i < 32 by omega) (by decide), Option.bind_some, wr_ne (show 22 ≠ 34 + s by omega), h22 i hi, cut_put _ s f i _ (by omega) hf (by rw [wr_ne (by omega)]; exact e1), Option.bind_some, nI_1, Nat.zero_add]) (by
      show zX9_write_L60 s (nI m) (nI m) _ = _
      unfold zX9_write_L60
      rw [if_pos (nI_le (Nat.le_refl _) (by omega))]) 0 (by omega)
theorem m_wr {σ : fr_St} {s f m : Nat} {L : List Nat} (hs4 : s < 4) (hm : m ≤ 32) (e1 : σ 1 s = nI f) (h16 : ∀ i, i < m → σ 16 i = nI (L.getD i 0)) :
    fr_loop (fun (b6 : Int32 × fr_St) => zX10_write_L57 (nI s) (nI m) b6.1 b6.2) fr_fu (0, σ) = some (wr σ 3 (60 * s) (fun i => zX10_cut (nI f) (nI (L.getD i 0))) m) :=
  lp_seq (body := fun (b6 : Int32 × fr_St) => zX10_write_L57 (nI s) (nI m) b6.1 b6.2) (fun i => (nI i, wr σ 3 (60 * s) (fun i => zX10_cut (nI f) (nI (L.getD i 0))) i)) m _ (by omega) (fun i hi => by
      show zX10_write_L57 (nI s) (nI m) (nI i) (wr σ 3 (60 * s) (fun i => zX10_cut (nI f) (nI (L.getD i 0))) i) = some (.inl (nI (i + 1), fr_put (wr σ 3 (60 * s) (fun i => zX10_cut (nI f) (nI (L.getD i 0))) i) 3 (60 * s + i) (zX10_cut (nI f) (nI (L.getD i 0)))))
      unfold zX10_write_L57
      rw [if_neg (nI_ge hi (by omega)), fr_al_nI hs4 (by decide), Option.bind_some, fr_al_nI (show i < 32 by omega) (by decide), Option.bind_some, wr_ne (show 1 ≠ 3 by omega), wr_ne (show 16 ≠ 3 by omega), e1, h16 i hi, show (60 : Int32) * nI s + nI i = nI (60 * s + i) by rw [show (60 : Int32) = nI 60 from rfl, pk_mul, nI_add], fr_as_nI (show 60 * s + i < 240 by omega) (by decide), Option.bind_some, nI_1]) (by
      show zX10_write_L57 (nI s) (nI m) (nI m) _ = _
      unfold zX10_write_L57
      rw [if_pos (nI_le (Nat.le_refl _) (by omega))]) 0 (by omega)
theorem ok_write : sm_write Rl := by
  rintro σx σm a1 a2 ⟨ν, hn, hx, hm, hs, hd, ho, hf⟩
  have hR0 : Rl σx σm := ⟨ν, hn, hx, hm, hs, hd, ho, hf⟩
  obtain ⟨σ2, e2, ht, hsc⟩ := ms_scrapes (k := ν 0 19) hn hm hn.2.2.2.2.2.1
  unfold zX9_write zX10_write zX9_isTool zX9_isSheet
  rw [in_isTool, in_isSheet]
  rcases wi_c a1 (M := 3) (m := 3) rfl (by decide) with h1 | ⟨t, ht4, rfl, h1⟩
  · exact ⟨-2, σx, σm, by rw [if_pos h1], by rw [if_pos h1], hR0⟩
  rw [h1, if10, if10]
  rcases wi_c a2 (M := 3) (m := 3) rfl (by decide) with h2 | ⟨s, hs3, rfl, h2⟩
  · exact ⟨-2, σx, σm, by rw [if_pos h2], by rw [if_pos h2], hR0⟩
  have hs4 : s < 4 := by omega
  rw [h2, if10, if10, fr_ar_nI hs4 (by decide), Option.bind_some, fr_al_nI hs4 (by decide), Option.bind_some]
  unfold zX5_isLost
  obtain ⟨hsa, hsb, hsc'⟩ := hs s hs4
  rcases hsc' with hl | ⟨f, hf2, hform⟩
  · rw [hsb, hl, if_pos rfl, if10, if_neg (show ¬ (0 : Int32) ≤ -1 by decide)]
    exact ⟨-10 - 1, fr_put σx 0 9 1, fr_put σm 0 4 1, rfl, rfl, Rl_found hR0 1⟩
  rw [hsb, hform, if_neg (nI_m1 (show f < 2 ^ 31 by omega)), if00, if_pos (nI_pos' (show f < 2 ^ 31 by omega))]
  obtain ⟨σ', e, hR, hq⟩ := settled hn hx hm hs hd ho hf
  obtain ⟨p, ff, e3, hp, hff, hsc3, hmt⟩ := r_first (Rs_sc hR hsc) ht (show t < 4 by omega)
  unfold zX10_scrapesAll
  rw [e, Option.bind_some, hm.2.2.2.2.2.1, e2, Option.bind_some, Option.bind_some, e3, Option.bind_some]
  dsimp only
  have hR3 := Rs_sc (Rs_sc hR hsc) hsc3
  obtain ⟨g, th, lf, h, rfl, rfl, rfl, rfl, m18, m19, m20, m21, m6, m22, m7, m23⟩ := hR.2.2.2.2.2.1
  have io := (mo_o_ok (h := vH ν) (th := vT ν) 32).1
  have m6' : σ' 17 6 = nI (mo_o (vH ν) (vT ν) 32).length := m6
  have m22' : ∀ i, i < (mo_o (vH ν) (vT ν) 32).length → σ' 22 i = nI ((mo_o (vH ν) (vT ν) 32).getD i 0) := m22
  generalize mo_o (vH ν) (vT ν) 32 = L at *
  generalize hσ3 : fr_row (fr_row σ2 17 p) 16 ff = σ3 at *
  obtain ⟨⟨n, hn60, x2, m2, it⟩, x1, hfm⟩ := hR3.2.2.2.1 s hs4
  have hform3 : σ3 1 s = nI f := by
    rw [← hform]
    have a1 := hsc3.1 1 (by decide)
    have a2 := hsc.1 1 (by decide)
    rw [a1, a2]
  have h16 : ∀ i, i < L.length → σ3 16 i = nI (L.getD i 0) := fun i hi => by rw [← hσ3, fr_row_self]; exact hff i hi
  have ek : (if σ' 17 6 < σ' (30 + s) 2 then σ' 17 6 else σ' (30 + s) 2) = nI (if L.length < n then L.length else n) := by
    rw [m6', x2]
    by_cases q : L.length < n
    · rw [if_pos q, if_pos (nI_lt q (by omega))]
    · rw [if_neg q, if_neg (nI_nlt (by omega) (by omega))]
  have er : zX10_lesser (nI n) (nI L.length) = nI (if L.length < n then L.length else n) := by
    unfold zX10_lesser
    by_cases q : L.length < n
    · rw [if_pos q, if_pos (nI_le (by omega) (by omega))]
    · rw [if_neg q]
      by_cases q2 : L.length = n
      · rw [q2, if_pos (nI_le (by omega) (by omega))]
      · rw [if_neg (nI_ge (by omega) (by omega))]
  have hmm : (if L.length < n then L.length else n) ≤ 32 ∧ (if L.length < n then L.length else n) ≤ n ∧ (if L.length < n then L.length else n) ≤ L.length := by split <;> omega
  generalize (if L.length < n then L.length else n) = m at *
  rw [fr_al_nI hs4 (by decide), Option.bind_some, m2, er, ek, x_wr (L := L) hs4 hf2 hmm.1 (by rw [x1]; exact hform3) (fun i hi => m22' i (by omega)), m_wr (L := L) hs4 hmm.1 hform3 (fun i hi => h16 i (by omega)), Option.bind_some, Option.bind_some]
  exact ⟨_, _, _, rfl, rfl, Rl_wr (Rs_Rl hR3) hs4 hn60 x2 m hmm.2.1⟩
