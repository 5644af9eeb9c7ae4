/-! state: both -/
theorem m_road {T lk th : Nat → Nat} {n : Nat} {σ : fr_St} (hn : n ≤ 40) (h14 : σ 0 14 = nI (rd_n T n)) (h10 : ∀ i, i < rd_n T n → ∃ k, k < 5 ∧ rd_k (T i) = some k ∧ σ 10 i = nI k) (h9 : ∀ c, th c ≤ 9) (h13 : ∀ j, j < 160 → σ 13 j = nI (lk j)) (hw : ∀ c, c < 32 → σ 9 c = nI (th c)) : zX10_riskOfRoad σ = some (nI (su (fun c => if 0 < th c then mo_h T n lk c else 0) 32)) := by
  unfold zX10_riskOfRoad
  have hN : rd_n T n ≤ 40 := Nat.le_trans rd_le hn
  have h := lp_seq (body := fun (b1 : Int32 × Int32) => zX10_riskOfRoad_L4 σ b1.1 b1.2) (fun i => (nI (su (fun j => mo_k lk th ((rd_k (T j)).getD 0)) i), nI i)) (rd_n T n) (nI (su (fun j => mo_k lk th ((rd_k (T j)).getD 0)) (rd_n T n))) (by omega) (fun i hi => by
      show zX10_riskOfRoad_L4 σ (nI (su (fun j => mo_k lk th ((rd_k (T j)).getD 0)) i)) (nI i) = some (.inl (nI (su (fun j => mo_k lk th ((rd_k (T j)).getD 0)) i + mo_k lk th ((rd_k (T i)).getD 0)), nI (i + 1)))
      unfold zX10_riskOfRoad_L4
      obtain ⟨k, hk, ek, e10⟩ := h10 i hi
      rw [h14, if_neg (nI_ge hi (by omega)), m_risk (by omega) hk h9 e10 h13 hw, Option.bind_some, nI_add, nI_1, ek]
      rfl) (by
      show zX10_riskOfRoad_L4 σ _ (nI (rd_n T n)) = _
      unfold zX10_riskOfRoad_L4
      rw [h14, if_pos (nI_le (Nat.le_refl _) (by omega))]) 0 (by omega)
  rw [show fr_loop (fun (b1 : Int32 × Int32) => zX10_riskOfRoad_L4 σ b1.1 b1.2) fr_fu (0, 0) = some (nI (su (fun j => mo_k lk th ((rd_k (T j)).getD 0)) (rd_n T n))) from h, Option.bind_some]
  rw [rd_tot (kd := fun j => (rd_k (T j)).getD 0) (fun j hj => by
    obtain ⟨k, hk, ek, _⟩ := h10 j hj
    rw [ek]
    exact ⟨hk, rfl⟩)]
theorem ok_state : sm_state Rl := by
  rintro σx σm a1 a2 ⟨ν, hn, hx, hm, hs, hd, ho, hf⟩
  have hR0 : Rl σx σm := ⟨ν, hn, hx, hm, hs, hd, ho, hf⟩
  have h40 := hn.2.2.2.2.2.1
  unfold zX9_state zX10_state
  rw [hm.2.2.2.2.2.1, hx.2.2.2.2.2.2.1, in_0h, in_0_2]
  rcases wi_c a1 (M := nI (ν 0 19)) (m := ν 0 19) rfl (by omega) with h1 | ⟨k, hk, rfl, h1⟩
  · exact ⟨-2, σx, σm, by rw [if_pos h1], by rw [if_pos h1], hR0⟩
  by_cases h2 : zX9_within a2 0 2 = 0
  · exact ⟨-2, σx, σm, by rw [h1, if10, if_pos h2], by rw [h1, if10, if_pos h2], hR0⟩
  obtain ⟨σ2, e2, ht, hsc⟩ := ms_scrapes (k := k) hn hm (by omega)
  obtain ⟨σ', e, hR, hq⟩ := settled hn hx hm hs hd ho hf
  obtain ⟨g, th, lf, h, rfl, rfl, rfl, rfl, m18, m19, m20, m21, m6, m22, m7, m23⟩ := hR.2.2.2.2.2.1
  have h9 : ∀ c, (mo_s (pn (ν 5) (ν 6 0)).2.2.2 (ν 12) (ν 14) k).1 c ≤ 9 := fun c => Nat.le_trans ((mo_le _).1 c) pn_g9
  unfold zX10_stateOf
  rw [h1, if10, if10, if_neg h2, if_neg h2, e2, Option.bind_some, e, Option.bind_some, Option.bind_some, Option.bind_some]
  dsimp only
  have hRl := Rs_Rl (Rs_sc hR hsc)
  by_cases z0 : a2 = 0
  · rw [if_pos z0, if_pos z0, x_sec (sk := ν 14) (sec := ν 11) (by omega) hn.2.2.2.2.2.2.1 (fun i hi => m18 i (by omega)) (fun i hi => (hR.2.1.2.2.2.2.2.2.2.1 i hi).1) hR.2.1.2.2.2.1, Option.bind_some, Option.bind_some, ht.2.2.2.2.2.2.2.1]
    exact ⟨_, σ', σ2, rfl, rfl, hRl⟩
  rw [if_neg z0, if_neg z0]
  by_cases z1 : a2 = 1
  · rw [if_pos z1, if_pos z1, x_rb (g := (pn (ν 5) (ν 6 0)).2.2.2) (hol := ν 12) (sk := ν 14) (by omega) (fun c => pn_g9) hn.2.2.2.2.2.2.1 hR.2.2.2.2.1.1.2.1 m21 (fun i hi => m18 i (by omega)) (fun i hi => (hR.2.1.2.2.2.2.2.2.2.1 i hi).2), Option.bind_some, m_road (T := fun i => ν 5 (40 + i)) hn.1.2 ht.2.2.2.1 ht.2.2.2.2.1 h9 (mb_sc hm hsc).2.2.2.2.1 ht.2.2.2.2.2.1, Option.bind_some, Option.bind_some]
    exact ⟨_, σ', σ2, rfl, rfl, hRl⟩
  rw [if_neg z1, if_neg z1, x_done (by omega) (fun i => mo_t9 (fun c => pn_g9)) (fun i hi => m18 i (by omega)), Option.bind_some, m_clear h9 (fun c hc => (ht.1.1 c hc).1) ht.2.2.2.2.2.1, Option.bind_some, Option.bind_some, clr_n hn.2.2.2.2.2.2.1 k (by omega), hd.1.2.2.2.2, nI_add]
  exact ⟨_, σ', σ2, rfl, rfl, hRl⟩
