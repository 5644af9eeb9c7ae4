/-! count; and both systems side by side, settled and scraped -/
theorem m_fr {g : Nat → Option Nat} {σ : fr_St} (h8 : ∀ c, c < 32 → σ 8 c = nI ((g c).getD 0)) : fr_loop (fun (b4 : Int32 × Int32) => zX10_count_L87 σ b4.1 b4.2) fr_fu (0, 0) = some (nI (su (fun c => (g c).getD 0) 32)) :=
  lp_seq (body := fun (b4 : Int32 × Int32) => zX10_count_L87 σ b4.1 b4.2) (fun i => (nI (su (fun c => (g c).getD 0) i), nI i)) 32 _ (by omega) (fun i hi => by
      show zX10_count_L87 σ (nI (su (fun c => (g c).getD 0) i)) (nI i) = some (.inl (nI (su (fun c => (g c).getD 0) i + (g i).getD 0), nI (i + 1)))
      unfold zX10_count_L87
      rw [if_neg (show ¬ 32 ≤ nI i from nI_ge (b := 32) hi (by decide)), fr_al_nI hi (by decide), Option.bind_some, h8 i hi, nI_add, nI_1]) (by
      show zX10_count_L87 σ _ (nI 32) = _
      unfold zX10_count_L87
      rw [if_pos (by decide)]) 0 (by omega)
theorem ok_count : sm_count Rl := by
  rintro σx σm a1 ⟨ν, hn, hx, hm, hs, hd, ho, hf⟩
  have hR0 : Rl σx σm := ⟨ν, hn, hx, hm, hs, hd, ho, hf⟩
  obtain ⟨σ2, e2, ht, hsc⟩ := ms_scrapes (k := ν 0 19) hn hm hn.2.2.2.2.2.1
  have hR2 := Rl_sc hR0 hsc
  have hm2 := mb_sc hm hsc
  unfold zX9_count zX10_count zX10_scrapesAll
  rw [hm.2.2.2.2.2.1, e2, Option.bind_some, Option.bind_some]
  by_cases h0 : a1 = 0
  · rw [if_pos h0, if_pos h0, hd.1.2.2.1, ht.1.2]
    exact ⟨_, σx, σ2, rfl, rfl, hR2⟩
  rw [if_neg h0, if_neg h0]
  by_cases h1 : a1 = 1
  · rw [if_pos h1, if_pos h1, hd.2.1.2.1, ht.2.2.2.1]
    exact ⟨_, σx, σ2, rfl, rfl, hR2⟩
  rw [if_neg h1, if_neg h1]
  by_cases h2 : a1 = 2
  · rw [if_pos h2, if_pos h2, h2, show (2 : Int32) - 2 = nI 0 by decide, fr_al_nI (by decide) (by decide), Option.bind_some, hx.1.1, hm2.1.1]
    exact ⟨_, σx, σ2, rfl, rfl, hR2⟩
  rw [if_neg h2, if_neg h2]
  by_cases h3 : a1 = 3
  · rw [if_pos h3, if_pos h3, h3, show (3 : Int32) - 2 = nI 1 by decide, fr_al_nI (by decide) (by decide), Option.bind_some, hx.1.2, hm2.1.2]
    exact ⟨_, σx, σ2, rfl, rfl, hR2⟩
  rw [if_neg h3, if_neg h3]
  by_cases h4 : a1 = 4
  · rw [if_pos h4, if_pos h4, hx.2.2.2.2.2.2.1, hm2.2.2.2.2.2.1]
    exact ⟨_, σx, σ2, rfl, rfl, hR2⟩
  rw [if_neg h4, if_neg h4]
  by_cases h5 : a1 = 5
  · obtain ⟨σ', e, hR, hq⟩ := settled hn hx hm hs hd ho hf
    obtain ⟨g, th, lf, h, rfl, rfl, rfl, rfl, m18, m19, m20, m21, m6, m22, m7, m23⟩ := hR.2.2.2.2.2.1
    rw [if_pos h5, if_pos h5, e, Option.bind_some]
    dsimp only
    rw [hR.2.1.2.2.2.2.2.2.1, x_done hn.2.2.2.2.2.1 (fun i => mo_t9 (fun c => pn_g9)) (fun i hi => m18 i (by omega)), Option.bind_some, ht.2.2.2.2.2.2.2.2.1]
    exact ⟨_, σ', σ2, rfl, rfl, Rs_Rl (Rs_sc hR hsc)⟩
  rw [if_neg h5, if_neg h5]
  by_cases h6 : a1 = 6
  · rw [if_pos h6, if_pos h6, m_fr (fun c hc => (ht.1.1 c hc).2), Option.bind_some, hd.1.2.2.2.1]
    exact ⟨_, σx, σ2, rfl, rfl, hR2⟩
  rw [if_neg h6, if_neg h6]
  by_cases h7 : a1 = 7
  · rw [if_pos h7, if_pos h7, hx.2.2.2.2.2.2.2.2.1, hm2.2.2.2.2.2.2.2.1]
    exact ⟨_, σx, σ2, rfl, rfl, hR2⟩
  rw [if_neg h7, if_neg h7]
  by_cases h8 : a1 = 8
  · rw [if_pos h8, if_pos h8, hf, hsc.2.2.2]
    exact ⟨_, σx, σ2, rfl, rfl, hR2⟩
  rw [if_neg h8, if_neg h8]
  exact ⟨_, σx, σ2, rfl, rfl, hR2⟩
/-- judged: behind it the class is settled, the reference scraped -/
theorem both_judged {ν : Nat → Nat → Nat} {σx σm : fr_St} (hn : nb ν) (hx : xb ν σx) (hm : mb ν σm) (hs : shr σx σm) (hd : xd ν σx) (ho : mox ν σx) (hf : σx 0 9 = σm 0 4) :
    ∃ r σ' σ2, zX9_judged σx = some (r, σ') ∧ zX10_judged σm = some (r, σ2) ∧ Rs ν σ' σ2 ∧ mst ν (ν 0 19) σ2 := by
  obtain ⟨σ', e, hR, hq⟩ := settled hn hx hm hs hd ho hf
  obtain ⟨σ2, e2, ht, hsc⟩ := ms_scrapes (k := ν 0 19) hn hm hn.2.2.2.2.2.1
  obtain ⟨g, th, lf, h, rfl, rfl, rfl, rfl, m18, m19, m20, m21, m6, m22, m7, m23⟩ := hR.2.2.2.2.2.1
  refine ⟨oI (mo_f (mo_t (pn (ν 5) (ν 6 0)).2.2.2 (ν 12) (ν 14)) (ν 0 19)), σ', σ2, ?_, ?_, Rs_sc hR hsc, ht⟩
  · unfold zX9_judged
    rw [e, Option.bind_some]
    dsimp only
    rw [hR.2.1.2.2.2.2.2.2.1, x_first hn.2.2.2.2.2.1 (fun i _ => mo_t9 (fun c => pn_g9)) m18, Option.bind_some]
  · unfold zX10_judged zX10_scrapesAll
    rw [hm.2.2.2.2.2.1, e2, Option.bind_some, Option.bind_some, ht.2.2.2.2.2.2.2.2.2]
theorem both_state {ν : Nat → Nat → Nat} {σx σm : fr_St} (hR : Rs ν σx σm) {a2 : Int32} (h2 : ¬ zX9_within a2 0 2 = 0) :
    ∃ r σ2, zX9_state σx (σx 14 2) a2 = some (r, σx) ∧ zX10_stateOf σm (σm 0 19) a2 = some (r, σ2) ∧ Rs ν σx σ2 ∧ mst ν (ν 0 19) σ2 := by
  have hn := hR.1
  have hm := hR.2.2.1
  have hd := hR.2.2.2.2.1
  have h40 := hn.2.2.2.2.2.1
  obtain ⟨σ2, e2, ht, hsc⟩ := ms_scrapes (k := ν 0 19) hn hm (by omega)
  obtain ⟨g, th, lf, h, rfl, rfl, rfl, rfl, m18, m19, m20, m21, m6, m22, m7, m23⟩ := hR.2.2.2.2.2.1
  have h9 : ∀ c, (mo_s (pn (ν 5) (ν 6 0)).2.2.2 (ν 12) (ν 14) (ν 0 19)).1 c ≤ 9 := fun c => Nat.le_trans ((mo_le _).1 c) pn_g9
  have hRl := Rs_sc hR hsc
  unfold zX9_state zX10_stateOf
  rw [hR.2.1.2.2.2.2.2.2.1, hm.2.2.2.2.2.1, e2, Option.bind_some, wi_nI (Nat.le_refl _) (by omega), if10, if_neg h2, Rs_set hR, Option.bind_some, Option.bind_some, Option.bind_some]
  dsimp only
  by_cases z0 : a2 = 0
  · rw [if_pos z0, if_pos z0, x_sec (sk := ν 14) (sec := ν 11) (by omega) hn.2.2.2.2.2.2.1 (fun i hi => m18 i (by omega)) (fun i hi => (hR.2.1.2.2.2.2.2.2.2.1 i hi).1) hR.2.1.2.2.2.1, Option.bind_some, ht.2.2.2.2.2.2.2.1]
    exact ⟨_, σ2, rfl, rfl, hRl, ht⟩
  rw [if_neg z0, if_neg z0]
  by_cases z1 : a2 = 1
  · rw [if_pos z1, if_pos z1, x_rb (g := (pn (ν 5) (ν 6 0)).2.2.2) (hol := ν 12) (sk := ν 14) (by omega) (fun c => pn_g9) hn.2.2.2.2.2.2.1 hd.1.2.1 m21 (fun i hi => m18 i (by omega)) (fun i hi => (hR.2.1.2.2.2.2.2.2.2.1 i hi).2), Option.bind_some, m_road (T := fun i => ν 5 (40 + i)) hn.1.2 ht.2.2.2.1 ht.2.2.2.2.1 h9 (mb_sc hm hsc).2.2.2.2.1 ht.2.2.2.2.2.1, Option.bind_some]
    exact ⟨_, σ2, rfl, rfl, hRl, ht⟩
  rw [if_neg z1, if_neg z1, x_done (by omega) (fun i => mo_t9 (fun c => pn_g9)) (fun i hi => m18 i (by omega)), Option.bind_some, m_clear h9 (fun c hc => (ht.1.1 c hc).1) ht.2.2.2.2.2.1, Option.bind_some, clr_n hn.2.2.2.2.2.2.1 (ν 0 19) (by omega), hd.1.2.2.2.2, nI_add]
  exact ⟨_, σ2, rfl, rfl, hRl, ht⟩
theorem both_left {ν : Nat → Nat → Nat} {σx σm : fr_St} (hR : Rs ν σx σm) (ht : mst ν (ν 0 19) σm) {t : Nat} (ht4 : t < 4) : ∃ r, zX9_left σx (nI t) = some (r, σx) ∧ fr_al 4 σm 15 (nI t) = some r := by
  obtain ⟨g, th, lf, h, rfl, rfl, rfl, rfl, m18, m19, m20, m21, m6, m22, m7, m23⟩ := hR.2.2.2.2.2.1
  refine ⟨_, ?_, fr_al_nI ht4 (by decide)⟩
  unfold zX9_left zX9_isTool
  rw [show zX9_within (nI t) 0 3 = 1 from wi_nI (m := 3) (by omega) (by decide), if10, Rs_set hR, Option.bind_some]
  dsimp only
  rw [fr_al_nI ht4 (by decide), Option.bind_some, m20 t ht4, ht.2.2.2.2.2.2.1 t ht4]
theorem both_all {ν : Nat → Nat → Nat} {σx σm : fr_St} (hR : Rs ν σx σm) (ht : mst ν (ν 0 19) σm) {t : Nat} (ht4 : t < 4) : ∃ r, zX9_all σx (nI t) = some (r, σx) ∧ zX10_allOf σm (nI t) = some r := by
  obtain ⟨g, th, lf, h, rfl, rfl, rfl, rfl, m18, m19, m20, m21, m6, m22, m7, m23⟩ := hR.2.2.2.2.2.1
  refine ⟨_, ?_, m_all ht4 ht.2.2.2.2.2.1 (hR.2.2.1.2.2.1 t ht4)⟩
  unfold zX9_all zX9_isTool
  rw [show zX9_within (nI t) 0 3 = 1 from wi_nI (m := 3) (by omega) (by decide), if10, Rs_set hR, Option.bind_some]
  dsimp only
  rw [fr_al_nI ht4 (by decide), Option.bind_some, m7, hR.2.1.2.2.2.1 t ht4, pk_mul]
theorem both_risk2 {ν : Nat → Nat → Nat} {σx σm : fr_St} (hR : Rs ν σx σm) (ht : mst ν (ν 0 19) σm) {i : Nat} (hi : i < rd_n (fun i => ν 5 (40 + i)) (ν 6 1)) :
    ∃ r, zX9_risk σx (nI i) = some (nI r, σx) ∧ zX10_riskOf σm (nI i) = some (nI r) ∧ zX9_isStretch σx (nI i) = 1 := by
  have hn := hR.1
  have h40 : i < 40 := by have := rd_le (T := fun i => ν 5 (40 + i)) (n := ν 6 1); have := hn.1.2; omega
  obtain ⟨k, hk, ek, e10⟩ := ht.2.2.2.2.1 i hi
  obtain ⟨g, th, lf, h, rfl, rfl, rfl, rfl, m18, m19, m20, m21, m6, m22, m7, m23⟩ := hR.2.2.2.2.2.1
  have h9 : ∀ c, (mo_s (pn (ν 5) (ν 6 0)).2.2.2 (ν 12) (ν 14) (ν 0 19)).1 c ≤ 9 := fun c => Nat.le_trans ((mo_le _).1 c) pn_g9
  have hn40 : rd_n (fun i => ν 5 (40 + i)) (ν 6 1) ≤ 40 := Nat.le_trans rd_le hn.1.2
  have hw : zX9_within (nI i) 0 (nI (rd_n (fun i => ν 5 (40 + i)) (ν 6 1)) - 1) = 1 := by
    obtain ⟨m, hm'⟩ : ∃ m, rd_n (fun i => ν 5 (40 + i)) (ν 6 1) = m + 1 := ⟨rd_n (fun i => ν 5 (40 + i)) (ν 6 1) - 1, by omega⟩
    rw [hm', nI_pred]
    exact wi_nI (by omega) (by omega)
  refine ⟨mo_k (ν 13) (mo_s (pn (ν 5) (ν 6 0)).2.2.2 (ν 12) (ν 14) (ν 0 19)).1 k, ?_, m_risk h40 hk h9 e10 hR.2.2.1.2.2.2.2.1 ht.2.2.2.2.2.1, ?_⟩
  · unfold zX9_risk zX9_isStretch
    rw [hR.2.2.2.2.1.2.1.2.1, hw, if10, Rs_set hR, Option.bind_some]
    dsimp only
    unfold zX3_kindAt
    rw [hR.2.2.2.2.1.2.1.2.1, hw, if10, fr_al_nI h40 (by decide), Option.bind_some, Option.bind_some, hR.2.1.2.2.1 i h40, kd_eq (hn.2.1 _ (by omega)), ek]
    show (zX1_riskOfKind σx (nI k)).bind _ = _
    rw [x_risk hk h9 (fun c h => mo_0 h) hR.2.1.2.2.2.2.2.1 m19, Option.bind_some]
  · unfold zX9_isStretch
    rw [hR.2.2.2.2.1.2.1.2.1, hw]
theorem both_bend {ν : Nat → Nat → Nat} {σx σm : fr_St} (hR : Rs ν σx σm) (ht : mst ν (ν 0 19) σm) {i : Nat} (hi : i < rd_n (fun i => ν 5 (40 + i)) (ν 6 1)) :
    ∃ r, zX9_bend σx (nI i) 30 2 = some (r, σx) ∧ zX10_bendOf σm (nI i) 30 2 = some r := by
  obtain ⟨r, x1, x2, x3⟩ := both_risk2 hR ht hi
  unfold zX9_bend zX10_bendOf
  rw [x3, if10, show zX9_within 30 0 999 = 1 by decide, if10, show zX9_within 2 0 99 = 1 by decide, if10, x1, x2, Option.bind_some, Option.bind_some]
  dsimp only
  by_cases h : 2 * nI r ≤ 30
  · exact ⟨0, by rw [if_pos h], by rw [if_pos h]⟩
  · exact ⟨1, by rw [if_neg h], by rw [if_neg h]⟩
theorem both_again {a4 : Int32} (h4 : ¬ zX9_within a4 0 1 = 0) : ∃ r, zX9_again 3 4 5 a4 = some r ∧ zX10_againOf 3 4 5 a4 = some r := by
  obtain ⟨c, h1, h2⟩ := again_both 3 4 5 (by omega) (by omega) a4
  unfold zX9_again zX10_againOf zX9_isPair
  rw [show zX9_within 3 1 5 = 1 by decide, if10, show zX9_within 4 0 9 = 1 by decide, if10, show zX9_within 5 0 60 = 1 by decide, if10, if_neg h4]
  rw [show fr_loop (fun (b1 : Int32 × Int32 × Int32 × Int32) => zX9_again_L52 3 4 5 a4 b1.1 b1.2.1 b1.2.2.1 b1.2.2.2) fr_fu (0, (-1), (-1), 0) = some c from h1, show fr_loop (fun (b1 : Int32 × Int32 × Int32 × Int32) => zX10_againOf_L12 3 4 5 a4 b1.1 b1.2.1 b1.2.2.1 b1.2.2.2) fr_fu (0, (-1), (-1), 0) = some c from h2, Option.bind_some]
  by_cases z : a4 = 0
  · exact ⟨c.1, by rw [if_pos z], by rw [if_pos z]⟩
  · by_cases y : c.2 = 120
    · exact ⟨-1, by rw [if_neg z, if_pos y], by rw [if_neg z, if_pos y]⟩
    · exact ⟨c.2 + 1, by rw [if_neg z, if_neg y], by rw [if_neg z, if_neg y]⟩
