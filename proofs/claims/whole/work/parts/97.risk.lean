/-! risk, bend -/
/-- the risk of a stretch of kind k -/
def mo_k (lk th : Nat → Nat) (k : Nat) : Nat := su (fun c => if 0 < th c then lk (32 * k + c) else 0) 32
theorem x_risk {g : Nat → Option Nat} {lk th : Nat → Nat} {σ : fr_St} {k : Nat} (hk : k < 5) (h9 : ∀ c, th c ≤ 9) (h0 : ∀ c, g c = none → th c = 0) (h13 : ∀ j, j < 160 → σ 13 j = nI (lk j)) (h19 : ∀ c, c < 32 → σ 19 c = oT g th c) : zX1_riskOfKind σ (nI k) = some (nI (mo_k lk th k)) := by
  unfold zX1_riskOfKind
  have h := lp_seq (body := fun (b1 : Int32 × Int32) => zX1_riskOfKind_L5 σ (nI k) b1.1 b1.2) (fun i => (nI (su (fun c => if 0 < th c then lk (32 * k + c) else 0) i), nI i)) 32 (nI (mo_k lk th k)) (by omega) (fun i hi => by
      show zX1_riskOfKind_L5 σ (nI k) (nI (su (fun c => if 0 < th c then lk (32 * k + c) else 0) i)) (nI i) = some (.inl (nI (su (fun c => if 0 < th c then lk (32 * k + c) else 0) i + (if 0 < th i then lk (32 * k + i) else 0)), nI (i + 1)))
      unfold zX1_riskOfKind_L5 zX9_isKind
      rw [if_neg (show ¬ 32 ≤ nI i from nI_ge (b := 32) hi (by decide)), show zX9_within (nI k) 0 4 = 1 from wi_nI (m := 4) (by omega) (by decide), if10, fr_al_nI hi (by decide), Option.bind_some, h19 i hi, show nI k * 32 + nI i = nI (32 * k + i) by rw [show (32 : Int32) = nI 32 from rfl, pk_mul, nI_add, Nat.mul_comm], fr_al_nI (show 32 * k + i < 160 by omega) (by decide), Option.bind_some, h13 _ (by omega), nI_1]
      by_cases t0 : 0 < th i
      · rw [if_neg (fun hle => (oT_le (h0 i) (h9 i)).mp hle t0), if_pos t0, nI_add]
      · rw [if_pos ((oT_le (h0 i) (h9 i)).mpr t0), if_neg t0, show (0 : Int32) = nI 0 from rfl, nI_add]) (by
      show zX1_riskOfKind_L5 σ (nI k) _ (nI 32) = _
      unfold zX1_riskOfKind_L5
      rw [if_pos (by decide)]
      rfl) 0 (by omega)
  rw [show fr_loop (fun (b1 : Int32 × Int32) => zX1_riskOfKind_L5 σ (nI k) b1.1 b1.2) fr_fu (0, 0) = some (nI (mo_k lk th k)) from h, Option.bind_some]
theorem m_risk {lk th : Nat → Nat} {σ : fr_St} {k i0 : Nat} (hi0 : i0 < 40) (hk : k < 5) (h9 : ∀ c, th c ≤ 9) (h10 : σ 10 i0 = nI k) (h13 : ∀ j, j < 160 → σ 13 j = nI (lk j)) (hw : ∀ c, c < 32 → σ 9 c = nI (th c)) : zX10_riskOf σ (nI i0) = some (nI (mo_k lk th k)) := by
  unfold zX10_riskOf
  have h := lp_seq (body := fun (b1 : Int32 × Int32) => zX10_riskOf_L4 σ (nI i0) b1.1 b1.2) (fun i => (nI (su (fun c => if 0 < th c then lk (32 * k + c) else 0) i), nI i)) 32 (nI (mo_k lk th k)) (by omega) (fun i hi => by
      show zX10_riskOf_L4 σ (nI i0) (nI (su (fun c => if 0 < th c then lk (32 * k + c) else 0) i)) (nI i) = some (.inl (nI (su (fun c => if 0 < th c then lk (32 * k + c) else 0) i + (if 0 < th i then lk (32 * k + i) else 0)), nI (i + 1)))
      unfold zX10_riskOf_L4
      have := h9 i
      rw [if_neg (show ¬ 32 ≤ nI i from nI_ge (b := 32) hi (by decide)), fr_al_nI hi (by decide), Option.bind_some, hw i hi, fr_al_nI hi0 (by decide), Option.bind_some, h10, show (32 : Int32) * nI k + nI i = nI (32 * k + i) by rw [show (32 : Int32) = nI 32 from rfl, pk_mul, nI_add], fr_al_nI (show 32 * k + i < 160 by omega) (by decide), Option.bind_some, h13 _ (by omega), nI_1]
      by_cases t0 : 0 < th i
      · rw [if_neg (nI_nle t0 (by omega)), if_pos t0, nI_add]
      · rw [if_pos (by rw [nI_le0 (by omega)]; omega), if_neg t0, show (0 : Int32) = nI 0 from rfl, nI_add]) (by
      show zX10_riskOf_L4 σ (nI i0) _ (nI 32) = _
      unfold zX10_riskOf_L4
      rw [if_pos (by decide)]
      rfl) 0 (by omega)
  rw [show fr_loop (fun (b1 : Int32 × Int32) => zX10_riskOf_L4 σ (nI i0) b1.1 b1.2) fr_fu (0, 0) = some (nI (mo_k lk th k)) from h, Option.bind_some]
/-- risk at a stretch that there is: both answer the same -/
theorem both_risk {ν : Nat → Nat → Nat} {σx σm : fr_St} (hn : nb ν) (hx : xb ν σx) (hm : mb ν σm) (hs : shr σx σm) (hd : xd ν σx) (ho : mox ν σx) (hf : σx 0 9 = σm 0 4) {σ2 : fr_St} (ht : mst ν (ν 0 19) σ2) (hsc : msc σm σ2) {i : Nat} (hi : i < rd_n (fun i => ν 5 (40 + i)) (ν 6 1)) :
    ∃ r σ', zX9_risk σx (nI i) = some (nI r, σ') ∧ zX10_riskOf σ2 (nI i) = some (nI r) ∧ Rl σ' σ2 := by
  have h40 : i < 40 := by have := rd_le (T := fun i => ν 5 (40 + i)) (n := ν 6 1); have := hn.1.2; omega
  obtain ⟨k, hk, ek, e10⟩ := ht.2.2.2.2.1 i hi
  obtain ⟨σ', e, hR, hq⟩ := settled hn hx hm hs hd ho hf
  obtain ⟨g, th, lf, h, rfl, rfl, rfl, rfl, m18, m19, m20, m21, m6, m22, m7, m23⟩ := hR.2.2.2.2.2.1
  have h9 : ∀ c, (mo_s (pn (ν 5) (ν 6 0)).2.2.2 (ν 12) (ν 14) (ν 0 19)).1 c ≤ 9 := fun c => Nat.le_trans ((mo_le _).1 c) pn_g9
  refine ⟨mo_k (ν 13) (mo_s (pn (ν 5) (ν 6 0)).2.2.2 (ν 12) (ν 14) (ν 0 19)).1 k, σ', ?_, m_risk h40 hk h9 e10 (mb_sc hm hsc).2.2.2.2.1 ht.2.2.2.2.2.1, Rs_Rl (Rs_sc hR hsc)⟩
  have hn40 : rd_n (fun i => ν 5 (40 + i)) (ν 6 1) ≤ 40 := Nat.le_trans rd_le hn.1.2
  have hw : zX9_within (nI i) 0 (nI (rd_n (fun i => ν 5 (40 + i)) (ν 6 1)) - 1) = 1 := by
    obtain ⟨m, hm'⟩ : ∃ m, rd_n (fun i => ν 5 (40 + i)) (ν 6 1) = m + 1 := ⟨rd_n (fun i => ν 5 (40 + i)) (ν 6 1) - 1, by omega⟩
    rw [hm', nI_pred]
    exact wi_nI (by omega) (by omega)
  unfold zX9_risk zX9_isStretch
  rw [hd.2.1.2.1, hw, if10, e, Option.bind_some]
  dsimp only
  unfold zX3_kindAt
  rw [hR.2.2.2.2.1.2.1.2.1, hw, if10, fr_al_nI h40 (by decide), Option.bind_some, Option.bind_some, hR.2.1.2.2.1 i h40, kd_eq (hn.2.1 _ (by omega)), ek]
  show (zX1_riskOfKind σ' (nI k)).bind _ = _
  rw [x_risk hk h9 (fun c h => mo_0 h) hR.2.1.2.2.2.2.2.1 m19, Option.bind_some]
theorem ok_risk : sm_risk Rl := by
  rintro σx σm a1 ⟨ν, hn, hx, hm, hs, hd, ho, hf⟩
  have hR0 : Rl σx σm := ⟨ν, hn, hx, hm, hs, hd, ho, hf⟩
  obtain ⟨σ2, e2, ht, hsc⟩ := ms_scrapes (k := ν 0 19) hn hm hn.2.2.2.2.2.1
  have hn40 : rd_n (fun i => ν 5 (40 + i)) (ν 6 1) ≤ 40 := Nat.le_trans rd_le hn.1.2
  unfold zX10_risk zX10_scrapesAll
  rw [hm.2.2.2.2.2.1, e2, Option.bind_some, Option.bind_some, ht.2.2.2.1, in_0h]
  rcases wi_sz a1 (n := rd_n (fun i => ν 5 (40 + i)) (ν 6 1)) (by omega) with h1 | ⟨i, hi, rfl, h1⟩
  · refine ⟨-2, σx, σ2, ?_, by rw [if_pos h1], Rl_sc hR0 hsc⟩
    unfold zX9_risk zX9_isStretch
    rw [hd.2.1.2.1, if_pos h1]
  · obtain ⟨r, σ', a, b, c⟩ := both_risk hn hx hm hs hd ho hf ht hsc hi
    exact ⟨nI r, σ', σ2, a, by rw [h1, if10, b, Option.bind_some], c⟩
theorem ok_bend : sm_bend Rl := by
  rintro σx σm a1 a2 a3 ⟨ν, hn, hx, hm, hs, hd, ho, hf⟩
  have hR0 : Rl σx σm := ⟨ν, hn, hx, hm, hs, hd, ho, hf⟩
  obtain ⟨σ2, e2, ht, hsc⟩ := ms_scrapes (k := ν 0 19) hn hm hn.2.2.2.2.2.1
  have hn40 : rd_n (fun i => ν 5 (40 + i)) (ν 6 1) ≤ 40 := Nat.le_trans rd_le hn.1.2
  unfold zX9_bend zX9_isStretch zX10_bend zX10_scrapesAll
  rw [hm.2.2.2.2.2.1, e2, Option.bind_some, Option.bind_some, ht.2.2.2.1, in_0h, hd.2.1.2.1, in_0_999, in_0_99]
  rcases wi_sz a1 (n := rd_n (fun i => ν 5 (40 + i)) (ν 6 1)) (by omega) with h1 | ⟨i, hi, rfl, h1⟩
  · exact ⟨-2, σx, σ2, by rw [if_pos h1], by rw [if_pos h1], Rl_sc hR0 hsc⟩
  rw [h1, if10, if10]
  by_cases h2 : zX9_within a2 0 999 = 0
  · exact ⟨-2, σx, σ2, by rw [if_pos h2], by rw [if_pos h2], Rl_sc hR0 hsc⟩
  rw [if_neg h2, if_neg h2]
  by_cases h3 : zX9_within a3 0 99 = 0
  · exact ⟨-2, σx, σ2, by rw [if_pos h3], by rw [if_pos h3], Rl_sc hR0 hsc⟩
  rw [if_neg h3, if_neg h3]
  obtain ⟨r, σ', a, b, c⟩ := both_risk hn hx hm hs hd ho hf ht hsc hi
  unfold zX10_bendOf
  rw [a, b, Option.bind_some, Option.bind_some]
  dsimp only
  by_cases h4 : a3 * nI r ≤ a2
  · exact ⟨0, σ', σ2, by rw [if_pos h4], by rw [if_pos h4]; rfl, c⟩
  · exact ⟨1, σ', σ2, by rw [if_neg h4], by rw [if_neg h4]; rfl, c⟩
