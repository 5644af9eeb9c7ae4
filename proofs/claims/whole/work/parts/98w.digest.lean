/-! digest -/
theorem lp_2 {β γ : Type} {body : β → Option (β ⊕ γ)} {b0 b1 b2 : β} {c : γ} (h0 : body b0 = some (.inl b1)) (h1 : body b1 = some (.inl b2)) (h2 : body b2 = some (.inr c)) : fr_loop body fr_fu b0 = some c := by
  obtain ⟨N, hN⟩ : ∃ M, fr_fu = M + 3 := ⟨fr_fu - 3, by have := fr_fu_ge; omega⟩
  rw [hN]
  exact (lp_l h0).trans ((lp_l h1).trans (lp_r h2))
theorem lp_3 {β γ : Type} {body : β → Option (β ⊕ γ)} {b0 b1 b2 b3 : β} {c : γ} (h0 : body b0 = some (.inl b1)) (h1 : body b1 = some (.inl b2)) (h2 : body b2 = some (.inl b3)) (h3 : body b3 = some (.inr c)) : fr_loop body fr_fu b0 = some c := by
  obtain ⟨N, hN⟩ : ∃ M, fr_fu = M + 4 := ⟨fr_fu - 4, by have := fr_fu_ge; omega⟩
  rw [hN]
  exact (lp_l h0).trans ((lp_l h1).trans ((lp_l h2).trans (lp_r h3)))
theorem dg_counts {σx σm : fr_St} (hR : Rl σx σm) : ∃ h σ σ', fr_loop (fun (b1 : Int64 × Int32 × fr_St) => zX9_digest_L6 b1.1 b1.2.1 b1.2.2) fr_fu (17, 0, σx) = some (h, σ) ∧ fr_loop (fun (b1 : Int64 × Int32 × fr_St) => zX10_digest_L6 b1.1 b1.2.1 b1.2.2) fr_fu (17, 0, σm) = some (h, σ') ∧ Rl σ σ' := by
  obtain ⟨c, c', l1, l2, h, σ, σ', rfl, rfl, hQ⟩ := lp_two (body := fun (b1 : Int64 × Int32 × fr_St) => zX9_digest_L6 b1.1 b1.2.1 b1.2.2) (body' := fun (b1 : Int64 × Int32 × fr_St) => zX10_digest_L6 b1.1 b1.2.1 b1.2.2)
    (fun i b b' => ∃ h σ σ', b = (h, nI i, σ) ∧ b' = (h, nI i, σ') ∧ Rl σ σ') (fun c c' => ∃ h σ σ', c = (h, σ) ∧ c' = (h, σ') ∧ Rl σ σ') 8 (by omega)
    (fun i b b' hi hI => by
      obtain ⟨h, σ, σ', rfl, rfl, hR⟩ := hI
      obtain ⟨r, σ1, σ2, e1, e2, h2⟩ := ok_count σ σ' (nI i) hR
      refine Or.inl ⟨(zX9_mixed h r.toInt64, nI (i + 1), σ1), (31 * h + r.toInt64, nI (i + 1), σ2), ?_, ?_, _, σ1, σ2, rfl, rfl, h2⟩
      · show zX9_digest_L6 h (nI i) σ = _
        unfold zX9_digest_L6
        rw [if_neg (show ¬ 7 < nI i from nI_nlt (a := 7) (by omega) (by decide)), e1, Option.bind_some, nI_1]
      · show zX10_digest_L6 h (nI i) σ' = _
        unfold zX10_digest_L6
        rw [if_neg (show ¬ 8 ≤ nI i from nI_ge (b := 8) hi (by decide)), e2, Option.bind_some, nI_1])
    (fun b b' hI => by
      obtain ⟨h, σ, σ', rfl, rfl, hR⟩ := hI
      refine ⟨(h, σ), (h, σ'), ?_, ?_, h, σ, σ', rfl, rfl, hR⟩
      · show zX9_digest_L6 h (nI 8) σ = _
        unfold zX9_digest_L6
        rw [if_pos (by decide)]
      · show zX10_digest_L6 h (nI 8) σ' = _
        unfold zX10_digest_L6
        rw [if_pos (by decide)])
    0 (17, 0, σx) (17, 0, σm) (by omega) ⟨17, σx, σm, rfl, rfl, hR⟩
  exact ⟨h, σ, σ', l1, l2, hQ⟩
theorem dg_states {ν : Nat → Nat → Nat} {σx σm : fr_St} {h0 : Int64} (hR : Rs ν σx σm) (ht : mst ν (ν 0 19) σm) : ∃ h σ', fr_loop (fun (b7 : Int64 × Int32 × fr_St) => zX9_digest_L63 b7.1 b7.2.1 b7.2.2) fr_fu (h0, 0, σx) = some (h, σx) ∧ fr_loop (fun (b11 : Int64 × Int32 × fr_St) => zX10_digest_L69 b11.1 b11.2.1 b11.2.2) fr_fu (h0, 0, σm) = some (h, σ') ∧ Rs ν σx σ' ∧ mst ν (ν 0 19) σ' := by
  obtain ⟨c, c', l1, l2, h, σ', rfl, rfl, hQ, hT⟩ := lp_two (body := fun (b7 : Int64 × Int32 × fr_St) => zX9_digest_L63 b7.1 b7.2.1 b7.2.2) (body' := fun (b11 : Int64 × Int32 × fr_St) => zX10_digest_L69 b11.1 b11.2.1 b11.2.2)
    (fun i b b' => ∃ h σ', b = (h, nI i, σx) ∧ b' = (h, nI i, σ') ∧ Rs ν σx σ' ∧ mst ν (ν 0 19) σ') (fun c c' => ∃ h σ', c = (h, σx) ∧ c' = (h, σ') ∧ Rs ν σx σ' ∧ mst ν (ν 0 19) σ') 3 (by omega)
    (fun i b b' hi hI => by
      obtain ⟨h, σ', rfl, rfl, hR, hT⟩ := hI
      obtain ⟨r, σ2, e1, e2, h2, h3⟩ := both_state hR (a2 := nI i) (by rw [show zX9_within (nI i) 0 2 = 1 from wi_nI (m := 2) (by omega) (by decide)]; decide)
      refine Or.inl ⟨(zX9_mixed h r.toInt64, nI (i + 1), σx), (31 * h + r.toInt64, nI (i + 1), σ2), ?_, ?_, _, σ2, rfl, rfl, h2, h3⟩
      · show zX9_digest_L63 h (nI i) σx = _
        unfold zX9_digest_L63
        rw [if_neg (show ¬ 2 < nI i from nI_nlt (a := 2) (by omega) (by decide)), e1, Option.bind_some, nI_1]
      · show zX10_digest_L69 h (nI i) σ' = _
        unfold zX10_digest_L69
        rw [if_neg (show ¬ 3 ≤ nI i from nI_ge (b := 3) hi (by decide)), e2, Option.bind_some, nI_1])
    (fun b b' hI => by
      obtain ⟨h, σ', rfl, rfl, hR, hT⟩ := hI
      refine ⟨(h, σx), (h, σ'), ?_, ?_, h, σ', rfl, rfl, hR, hT⟩
      · show zX9_digest_L63 h (nI 3) σx = _
        unfold zX9_digest_L63
        rw [if_pos (by decide)]
      · show zX10_digest_L69 h (nI 3) σ' = _
        unfold zX10_digest_L69
        rw [if_pos (by decide)])
    0 (h0, 0, σx) (h0, 0, σm) (by omega) ⟨h0, σm, rfl, rfl, hR, ht⟩
  exact ⟨h, σ', l1, l2, hQ, hT⟩
theorem dg_ix : ∀ i, i < 3 → ¬ zX9_within (nI i - 1) (-1) 31 = 0 ∧ ¬ 1 < nI i - 1 ∧ ¬ 2 ≤ nI i - 1 ∧ nI i - 1 + 1 = nI (i + 1) - 1 := by decide +kernel
theorem dg_firsts {ν : Nat → Nat → Nat} {σx σm : fr_St} {h0 : Int64} {t : Nat} (ht4 : t < 4) (hR : Rs ν σx σm) (ht : mst ν (ν 0 19) σm) : ∃ h σ', fr_loop (fun (b5 : Int64 × Int32 × fr_St) => zX9_mixedWithTool_L28 (nI t) b5.1 b5.2.1 b5.2.2) fr_fu (h0, (-1), σx) = some (h, σx) ∧ fr_loop (fun (b3 : Int64 × Int32 × fr_St) => zX10_digest_L134 (nI t) b3.1 b3.2.1 b3.2.2) fr_fu (h0, (-1), σm) = some (h, σ') ∧ Rs ν σx σ' ∧ mst ν (ν 0 19) σ' := by
  obtain ⟨c, c', l1, l2, h, σ', rfl, rfl, hQ, hT⟩ := lp_two (body := fun (b5 : Int64 × Int32 × fr_St) => zX9_mixedWithTool_L28 (nI t) b5.1 b5.2.1 b5.2.2) (body' := fun (b3 : Int64 × Int32 × fr_St) => zX10_digest_L134 (nI t) b3.1 b3.2.1 b3.2.2)
    (fun i b b' => ∃ h σ', b = (h, nI i - 1, σx) ∧ b' = (h, nI i - 1, σ') ∧ Rs ν σx σ' ∧ mst ν (ν 0 19) σ') (fun c c' => ∃ h σ', c = (h, σx) ∧ c' = (h, σ') ∧ Rs ν σx σ' ∧ mst ν (ν 0 19) σ') 3 (by omega)
    (fun i b b' hi hI => by
      obtain ⟨h, σ', rfl, rfl, hR, hT⟩ := hI
      obtain ⟨i1, i2, i3, i4⟩ := dg_ix i hi
      obtain ⟨r, σ2, e1, e2, h2, h3⟩ := both_first hR hT ht4 i1
      refine Or.inl ⟨(zX9_mixed h r.toInt64, nI (i + 1) - 1, σx), (31 * h + r.toInt64, nI (i + 1) - 1, σ2), ?_, ?_, _, σ2, rfl, rfl, h2, h3⟩
      · show zX9_mixedWithTool_L28 (nI t) h (nI i - 1) σx = _
        unfold zX9_mixedWithTool_L28
        rw [if_neg i2, e1, Option.bind_some, i4]
      · show zX10_digest_L134 (nI t) h (nI i - 1) σ' = _
        unfold zX10_digest_L134
        rw [if_neg i3, e2, Option.bind_some, i4])
    (fun b b' hI => by
      obtain ⟨h, σ', rfl, rfl, hR, hT⟩ := hI
      refine ⟨(h, σx), (h, σ'), ?_, ?_, h, σ', rfl, rfl, hR, hT⟩
      · show zX9_mixedWithTool_L28 (nI t) h (nI 3 - 1) σx = _
        unfold zX9_mixedWithTool_L28
        rw [if_pos (by decide)]
      · show zX10_digest_L134 (nI t) h (nI 3 - 1) σ' = _
        unfold zX10_digest_L134
        rw [if_pos (by decide)])
    0 (h0, (-1), σx) (h0, (-1), σm) (by omega) ⟨h0, σm, rfl, rfl, hR, ht⟩
  exact ⟨h, σ', l1, l2, hQ, hT⟩
theorem wi_0 : ¬ zX9_within 0 0 1 = 0 := by decide
theorem wi_1 : ¬ zX9_within 1 0 1 = 0 := by decide
theorem dg_tool {ν : Nat → Nat → Nat} {σx σm : fr_St} {h0 : Int64} {t : Nat} (ht4 : t < 4) (hR : Rs ν σx σm) (ht : mst ν (ν 0 19) σm) : ∃ h σ', zX9_mixedWithTool σx h0 (nI t) = some (h, σx) ∧ zX10_digest_L99 h0 (nI t) σm = some (.inl (h, nI (t + 1), σ')) ∧ Rs ν σx σ' ∧ mst ν (ν 0 19) σ' := by
  obtain ⟨r1, a1, b1⟩ := both_left hR ht ht4
  obtain ⟨r2, a2, b2⟩ := both_all hR ht ht4
  obtain ⟨h3, σ3, a3, b3, hR3, ht3⟩ := dg_firsts (h0 := 31 * (31 * h0 + r1.toInt64) + r2.toInt64) ht4 hR ht
  obtain ⟨r4, σ4, a4, b4, hR4, ht4'⟩ := both_stop hR3 ht3 ht4 (c := 1) (v := 3) (by omega) (by omega) wi_0
  obtain ⟨r5, σ5, a5, b5, hR5, ht5⟩ := both_stop hR4 ht4' ht4 (c := 1) (v := 3) (by omega) (by omega) wi_1
  obtain ⟨r6, a6, b6⟩ := both_warm hR5 ht5 (m := 20) (by omega) (by omega) ht4 wi_0
  obtain ⟨r7, a7, b7⟩ := both_warm hR5 ht5 (m := 20) (by omega) (by omega) ht4 wi_1
  obtain ⟨N8, v8, a8, b8, c8⟩ := both_tonight hR5.1 hR5.2.1 hR5.2.2.1 hR5.2.2.2.2.1 ht5.1 (p := 6) (w := 1) (l := 0) (t := t) (by omega) (by omega) (by omega) ht4 wi_0
  obtain ⟨N9, v9, a9, b9, c9⟩ := both_tonight hR5.1 hR5.2.1 hR5.2.2.1 hR5.2.2.2.2.1 ht5.1 (p := 6) (w := 1) (l := 0) (t := t) (by omega) (by omega) (by omega) ht4 wi_1
  have ls : fr_loop (fun (b7 : Int64 × Int32 × fr_St) => zX10_digest_L164 (nI t) b7.1 b7.2.1 b7.2.2) fr_fu (h3, 0, σ3) = some (31 * (31 * h3 + r4.toInt64) + r5.toInt64, σ5) := lp_2 (body := fun (b7 : Int64 × Int32 × fr_St) => zX10_digest_L164 (nI t) b7.1 b7.2.1 b7.2.2) (b0 := (h3, 0, σ3)) (b1 := (31 * h3 + r4.toInt64, 1, σ4)) (b2 := (31 * (31 * h3 + r4.toInt64) + r5.toInt64, 2, σ5)) (by
      show zX10_digest_L164 (nI t) h3 0 σ3 = _
      unfold zX10_digest_L164
      rw [if_neg (by decide), show zX10_stopOf σ3 (nI t) 1 3 0 = some (r4, σ4) from b4, Option.bind_some]
      rfl) (by
      show zX10_digest_L164 (nI t) (31 * h3 + r4.toInt64) 1 σ4 = _
      unfold zX10_digest_L164
      rw [if_neg (by decide), show zX10_stopOf σ4 (nI t) 1 3 1 = some (r5, σ5) from b5, Option.bind_some]
      rfl) (by
      show zX10_digest_L164 (nI t) _ 2 σ5 = _
      unfold zX10_digest_L164
      rw [if_pos (by decide)])
  have lw : fr_loop (fun (b11 : Int64 × Int32) => zX10_digest_L196 σ5 (nI t) b11.1 b11.2) fr_fu (31 * (31 * h3 + r4.toInt64) + r5.toInt64, 0) = some (31 * (31 * (31 * (31 * h3 + r4.toInt64) + r5.toInt64) + r6.toInt64) + r7.toInt64) := lp_2 (body := fun (b11 : Int64 × Int32) => zX10_digest_L196 σ5 (nI t) b11.1 b11.2) (b0 := (31 * (31 * h3 + r4.toInt64) + r5.toInt64, 0)) (b1 := (31 * (31 * (31 * h3 + r4.toInt64) + r5.toInt64) + r6.toInt64, 1)) (b2 := (31 * (31 * (31 * (31 * h3 + r4.toInt64) + r5.toInt64) + r6.toInt64) + r7.toInt64, 2)) (by
      show zX10_digest_L196 σ5 (nI t) _ 0 = _
      unfold zX10_digest_L196
      rw [if_neg (by decide), show zX10_warmOf σ5 20 (nI t) 0 = some r6 from b6, Option.bind_some]
      rfl) (by
      show zX10_digest_L196 σ5 (nI t) _ 1 = _
      unfold zX10_digest_L196
      rw [if_neg (by decide), show zX10_warmOf σ5 20 (nI t) 1 = some r7 from b7, Option.bind_some]
      rfl) (by
      show zX10_digest_L196 σ5 (nI t) _ 2 = _
      unfold zX10_digest_L196
      rw [if_pos (by decide)])
  have lt : ∀ H : Int64, fr_loop (fun (b14 : Int64 × Int32) => zX10_digest_L228 σ5 (nI t) b14.1 b14.2) fr_fu (H, 0) = some (31 * (31 * H + v8) + v9) := fun H => lp_2 (body := fun (b14 : Int64 × Int32) => zX10_digest_L228 σ5 (nI t) b14.1 b14.2) (b0 := (H, 0)) (b1 := (31 * H + v8, 1)) (b2 := (31 * (31 * H + v8) + v9, 2)) (by
      show zX10_digest_L228 σ5 (nI t) _ 0 = _
      unfold zX10_digest_L228
      rw [if_neg (by decide), show zX10_tonightBy σ5 6 1 0 (nI t) = some (nI N8) from b8, Option.bind_some, c8, Option.bind_some]
      rfl) (by
      show zX10_digest_L228 σ5 (nI t) _ 1 = _
      unfold zX10_digest_L228
      rw [if_neg (by decide), show zX10_tonightBy σ5 6 1 0 (nI t) = some (nI N9) from b9, Option.bind_some, c9, Option.bind_some]
      rfl) (by
      show zX10_digest_L228 σ5 (nI t) _ 2 = _
      unfold zX10_digest_L228
      rw [if_pos (by decide)])
  refine ⟨31 * (31 * (31 * (31 * (31 * (31 * h3 + r4.toInt64) + r5.toInt64) + r6.toInt64) + r7.toInt64) + v8) + v9, σ5, ?_, ?_, hR5, ht5⟩
  · unfold zX9_mixedWithTool
    rw [a1, Option.bind_some]
    dsimp only
    rw [a2, Option.bind_some]
    dsimp only
    rw [show fr_loop (fun (b5 : Int64 × Int32 × fr_St) => zX9_mixedWithTool_L28 (nI t) b5.1 b5.2.1 b5.2.2) fr_fu (zX9_mixed (zX9_mixed h0 r1.toInt64) r2.toInt64, -1, σx) = some (h3, σx) from a3, Option.bind_some]
    dsimp only
    rw [show zX9_stop σx (nI t) 1 3 0 = some (r4, σx) from a4, Option.bind_some]
    dsimp only
    rw [show zX9_stop σx (nI t) 1 3 1 = some (r5, σx) from a5, Option.bind_some]
    dsimp only
    rw [show zX9_warm σx 20 (nI t) 0 = some (r6, σx) from a6, Option.bind_some]
    dsimp only
    rw [show zX9_warm σx 20 (nI t) 1 = some (r7, σx) from a7, Option.bind_some]
    dsimp only
    rw [show zX9_tonight σx 6 1 0 (nI t) 0 = some v8 from a8, Option.bind_some, show zX9_tonight σx 6 1 0 (nI t) 1 = some v9 from a9, Option.bind_some]
    rfl
  · unfold zX10_digest_L99
    rw [if_neg (show ¬ 4 ≤ nI t from nI_ge (b := 4) ht4 (by decide)), b1, Option.bind_some, b2, Option.bind_some, b3, Option.bind_some]
    dsimp only
    rw [ls, Option.bind_some]
    dsimp only
    rw [lw, Option.bind_some, lt, Option.bind_some, nI_1]
theorem dg_tools {ν : Nat → Nat → Nat} {σx σm : fr_St} {h0 : Int64} (hR : Rs ν σx σm) (ht : mst ν (ν 0 19) σm) : ∃ h σ', fr_loop (fun (b11 : Int64 × Int32 × fr_St) => zX9_digest_L94 b11.1 b11.2.1 b11.2.2) fr_fu (h0, 0, σx) = some (h, σx) ∧ fr_loop (fun (b15 : Int64 × Int32 × fr_St) => zX10_digest_L99 b15.1 b15.2.1 b15.2.2) fr_fu (h0, 0, σm) = some (h, σ') ∧ Rs ν σx σ' ∧ mst ν (ν 0 19) σ' := by
  obtain ⟨c, c', l1, l2, h, σ', rfl, rfl, hQ, hT⟩ := lp_two (body := fun (b11 : Int64 × Int32 × fr_St) => zX9_digest_L94 b11.1 b11.2.1 b11.2.2) (body' := fun (b15 : Int64 × Int32 × fr_St) => zX10_digest_L99 b15.1 b15.2.1 b15.2.2)
    (fun i b b' => ∃ h σ', b = (h, nI i, σx) ∧ b' = (h, nI i, σ') ∧ Rs ν σx σ' ∧ mst ν (ν 0 19) σ') (fun c c' => ∃ h σ', c = (h, σx) ∧ c' = (h, σ') ∧ Rs ν σx σ' ∧ mst ν (ν 0 19) σ') 4 (by omega)
    (fun i b b' hi hI => by
      obtain ⟨h, σ', rfl, rfl, hR, hT⟩ := hI
      obtain ⟨r, σ2, e1, e2, h2, h3⟩ := dg_tool (h0 := h) hi hR hT
      refine Or.inl ⟨(r, nI (i + 1), σx), (r, nI (i + 1), σ2), ?_, e2, _, σ2, rfl, rfl, h2, h3⟩
      show zX9_digest_L94 h (nI i) σx = _
      unfold zX9_digest_L94
      rw [if_neg (show ¬ 4 ≤ nI i from nI_ge (b := 4) hi (by decide)), e1, Option.bind_some, nI_1])
    (fun b b' hI => by
      obtain ⟨h, σ', rfl, rfl, hR, hT⟩ := hI
      refine ⟨(h, σx), (h, σ'), ?_, ?_, h, σ', rfl, rfl, hR, hT⟩
      · show zX9_digest_L94 h (nI 4) σx = _
        unfold zX9_digest_L94
        rw [if_pos (by decide)]
      · show zX10_digest_L99 h (nI 4) σ' = _
        unfold zX10_digest_L99
        rw [if_pos (by decide)])
    0 (h0, 0, σx) (h0, 0, σm) (by omega) ⟨h0, σm, rfl, rfl, hR, ht⟩
  exact ⟨h, σ', l1, l2, hQ, hT⟩
theorem dg_risks {ν : Nat → Nat → Nat} {σx σm : fr_St} {h0 : Int64} (hR : Rs ν σx σm) (ht : mst ν (ν 0 19) σm) : ∃ h, fr_loop (fun (b15 : Int64 × Int32 × fr_St) => zX9_digest_L114 b15.1 b15.2.1 b15.2.2) fr_fu (h0, 0, σx) = some (h, σx) ∧ fr_loop (fun (b34 : Int64 × Int32) => zX10_digest_L273 σm b34.1 b34.2) fr_fu (h0, 0) = some h := by
  have hn := hR.1
  have hn40 : rd_n (fun i => ν 5 (40 + i)) (ν 6 1) ≤ 40 := Nat.le_trans rd_le hn.1.2
  have e73 := hR.2.2.2.2.1.2.1.2.1
  have e14 := ht.2.2.2.1
  obtain ⟨c, c', l1, l2, h, rfl, rfl⟩ := lp_two (body := fun (b15 : Int64 × Int32 × fr_St) => zX9_digest_L114 b15.1 b15.2.1 b15.2.2) (body' := fun (b34 : Int64 × Int32) => zX10_digest_L273 σm b34.1 b34.2)
    (fun i b b' => ∃ h, b = (h, nI i, σx) ∧ b' = (h, nI i)) (fun c c' => ∃ h, c = (h, σx) ∧ c' = h) (rd_n (fun i => ν 5 (40 + i)) (ν 6 1)) (by omega)
    (fun i b b' hi hI => by
      obtain ⟨h, rfl, rfl⟩ := hI
      obtain ⟨r, e1, e2, _⟩ := both_risk2 hR ht hi
      obtain ⟨r', e3, e4⟩ := both_bend hR ht hi
      refine Or.inl ⟨(zX9_mixed (zX9_mixed h (nI r).toInt64) r'.toInt64, nI (i + 1), σx), (31 * (31 * h + (nI r).toInt64) + r'.toInt64, nI (i + 1)), ?_, ?_, _, rfl, rfl⟩
      · show zX9_digest_L114 h (nI i) σx = _
        unfold zX9_digest_L114
        rw [e73, if_neg (nI_ge hi (by omega)), e1, Option.bind_some]
        dsimp only
        rw [e3, Option.bind_some, nI_1]
      · show zX10_digest_L273 σm h (nI i) = _
        unfold zX10_digest_L273
        rw [e14, if_neg (nI_ge hi (by omega)), e2, Option.bind_some, e4, Option.bind_some, nI_1])
    (fun b b' hI => by
      obtain ⟨h, rfl, rfl⟩ := hI
      refine ⟨(h, σx), h, ?_, ?_, h, rfl, rfl⟩
      · show zX9_digest_L114 h (nI (rd_n (fun i => ν 5 (40 + i)) (ν 6 1))) σx = _
        unfold zX9_digest_L114
        rw [e73, if_pos (nI_le (Nat.le_refl _) (by omega))]
      · show zX10_digest_L273 σm h (nI (rd_n (fun i => ν 5 (40 + i)) (ν 6 1))) = _
        unfold zX10_digest_L273
        rw [e14, if_pos (nI_le (Nat.le_refl _) (by omega))])
    0 (h0, 0, σx) (h0, 0) (by omega) ⟨h0, rfl, rfl⟩
  exact ⟨_, l1, l2⟩
/-- lent at i -/
def lv (C : Nat → Nat) (n i : Nat) : Int32 := if n ≤ i then -1 else nI ((st_b C n).2.getD i 0)
theorem dg_lent {ν : Nat → Nat → Nat} {σx : fr_St} {h0 : Int64} (hn : nb ν) (hx : xb ν σx) (hd : xd ν σx) : fr_loop (fun (b26 : Int64 × Int32) => zX9_digest_L218 σx b26.1 b26.2) fr_fu (h0, (-1)) = some (31 * (31 * (31 * h0 + (nI (st_b (ν 18) (ν 0 27)).1).toInt64) + (lv (ν 18) (ν 0 27) 0).toInt64) + (lv (ν 18) (ν 0 27) 1).toInt64) := by
  have e1 : σx 24 4 = nI (ν 0 27) := hx.2.2.2.2.2.2.2.2.1
  have h7 : ν 0 27 ≤ 7 := hn.2.2.2.2.2.2.2.1
  have la : zX9_lent σx (-1) = some (nI (st_b (ν 18) (ν 0 27)).1) := by
    unfold zX9_lent zX6_leastLate
    rw [if_neg (by decide), if_pos rfl, show fr_al 128 σx 28 0 = fr_al 128 σx 28 (nI 0) from rfl, fr_al_nI (by decide) (by decide), Option.bind_some, Option.bind_some, hd.2.2.1]
  have lb : ∀ i, i < 2 → zX9_lent σx (nI i) = some (lv (ν 18) (ν 0 27) i) := fun i hi => by
    unfold zX9_lent lv
    rw [show zX9_within (nI i) (-1) 6 = 1 from wi_one ((by decide : ∀ i, i < 2 → (-1 : Int32) ≤ nI i) i hi) (nI_le (b := 6) (by omega) (by decide)), if10, if_neg (nI_m1 (by omega)), e1]
    by_cases hl : ν 0 27 ≤ i
    · rw [if_pos (nI_le hl (by omega)), if_pos hl]
    · rw [if_neg (nI_ge (by omega) (by omega)), if_neg hl, fr_al_nI (show i < 7 by omega) (by decide), Option.bind_some, hd.2.2.2 i (by omega)]
  refine lp_3 (body := fun (b26 : Int64 × Int32) => zX9_digest_L218 σx b26.1 b26.2) (b0 := (h0, -1)) (b1 := (31 * h0 + (nI (st_b (ν 18) (ν 0 27)).1).toInt64, 0)) (b2 := (31 * (31 * h0 + (nI (st_b (ν 18) (ν 0 27)).1).toInt64) + (lv (ν 18) (ν 0 27) 0).toInt64, 1)) (b3 := (31 * (31 * (31 * h0 + (nI (st_b (ν 18) (ν 0 27)).1).toInt64) + (lv (ν 18) (ν 0 27) 0).toInt64) + (lv (ν 18) (ν 0 27) 1).toInt64, 2)) ?_ ?_ ?_ ?_
  · show zX9_digest_L218 σx h0 (-1) = _
    unfold zX9_digest_L218
    rw [if_neg (by decide), la, Option.bind_some]
    rfl
  · show zX9_digest_L218 σx _ 0 = _
    unfold zX9_digest_L218
    rw [if_neg (by decide), show zX9_lent σx 0 = some (lv (ν 18) (ν 0 27) 0) from lb 0 (by omega), Option.bind_some]
    rfl
  · show zX9_digest_L218 σx _ 1 = _
    unfold zX9_digest_L218
    rw [if_neg (by decide), show zX9_lent σx 1 = some (lv (ν 18) (ν 0 27) 1) from lb 1 (by omega), Option.bind_some]
    rfl
  · show zX9_digest_L218 σx _ 2 = _
    unfold zX9_digest_L218
    rw [if_pos (by decide)]
theorem dg_row {C : Nat → Nat} {n : Nat} {σ : fr_St} {h0 : Int64} (hn : n ≤ 7) (h27 : σ 0 27 = nI n) (h20 : ∀ p, p < n → σ 20 p = nI ((st_b C n).2.getD p 0)) : fr_loop (fun (b46 : Int64 × Int32) => zX10_digest_L395 σ b46.1 b46.2) fr_fu (h0, 0) = some (31 * (31 * h0 + (lv C n 0).toInt64) + (lv C n 1).toInt64) := by
  have st : ∀ i, i < 2 → ∀ H : Int64, zX10_digest_L395 σ H (nI i) = some (.inl (31 * H + (lv C n i).toInt64, nI (i + 1))) := fun i hi H => by
    unfold zX10_digest_L395 lv
    rw [if_neg (show ¬ 2 ≤ nI i from nI_ge (b := 2) hi (by decide)), h27, nI_1]
    by_cases hl : n ≤ i
    · rw [if_pos (nI_le hl (by omega)), if_pos hl]
    · rw [if_neg (nI_ge (by omega) (by omega)), if_neg hl, fr_al_nI (show i < 7 by omega) (by decide), Option.bind_some, h20 i (by omega)]
  refine lp_2 (body := fun (b46 : Int64 × Int32) => zX10_digest_L395 σ b46.1 b46.2) (b0 := (h0, 0)) (b1 := (31 * h0 + (lv C n 0).toInt64, 1)) (b2 := (31 * (31 * h0 + (lv C n 0).toInt64) + (lv C n 1).toInt64, 2)) (st 0 (by omega) h0) (st 1 (by omega) _) ?_
  show zX10_digest_L395 σ _ 2 = _
  unfold zX10_digest_L395
  rw [if_pos (by decide)]
theorem ok_digest : sm_digest Rl := by
  rintro σx0 σm0 hRl0
  obtain ⟨h1, σx, σm, l1, l1', hRl⟩ := dg_counts hRl0
  obtain ⟨ν, hn, hx, hm, hs, hd, ho, hf⟩ := hRl
  obtain ⟨σp, e2, p1, p12, p13, f1⟩ := mp_pane (T := ν 5) (σ := σm) hn.1.1 (fun j hj => hn.2.1 j (by omega)) hm.1.1 (fun j hj => hm.2.1 j (by omega))
  have hmp := mb_sc hm (mfr_sc f1)
  have hsp := shr_sc hs (mfr_sc f1)
  obtain ⟨σr, e3, _, _, f2⟩ := mr_road (T := fun i => ν 5 (40 + i)) (σ := σp) hn.1.2 (fun j hj => hn.2.1 (40 + j) (by omega)) hmp.1.2 (fun j hj => hmp.2.1 (40 + j) (by omega))
  have hmr := mb_sc hmp (mfd_sc f2)
  have hsr := shr_sc hsp (mfd_sc f2)
  have hfr : σx 0 9 = σr 0 4 := by rw [(mfd_sc f2).2.2.2, (mfr_sc f1).2.2.2]; exact hf
  obtain ⟨r4, σs, σ4, a4, b4, hR4, ht4⟩ := both_judged hn hx hmr hsr hd ho hfr
  have ef0 : zX9_fault σx 0 = oI (pn (ν 5) (ν 6 0)).1 := hd.1.1
  have ef1 : zX9_fault σx 1 = oI (rd_lp (fun i => ν 5 (40 + i)) (ν 6 1) 0) := hd.2.1.1
  obtain ⟨h5, σ5, a5, b5, hR5, ht5⟩ := dg_states (h0 := 31 * (31 * (31 * h1 + (oI (pn (ν 5) (ν 6 0)).1).toInt64) + (oI (rd_lp (fun i => ν 5 (40 + i)) (ν 6 1) 0)).toInt64) + r4.toInt64) hR4 ht4
  obtain ⟨h6, σ6, a6, b6, hR6, ht6⟩ := dg_tools (h0 := h5) hR5 ht5
  obtain ⟨h7, a7, b7⟩ := dg_risks (h0 := h6) hR6 ht6
  obtain ⟨r8, a8, b8⟩ := both_melts hR6 ht6 (w := 30) (d := 6) (k := 5) (by omega) (by omega) (by omega) (by omega)
  obtain ⟨r9, a9, b9⟩ := both_again wi_0
  obtain ⟨r10, a10, b10⟩ := both_again wi_1
  obtain ⟨r11, σ7, a11, b11, q1, q12, q13, g1⟩ := both_cover hR6.1 hR6.2.1 hR6.2.2.1 hR6.2.2.2.2.1 8 60 4 90
  have hR7 := Rs_sc hR6 (mfr_sc g1)
  have m27 : σ7 0 27 = nI (ν 0 27) := hR7.2.2.1.2.2.2.2.2.2.2.1
  obtain ⟨σ8, e12, h20, hq8⟩ := m_row (σ := σ7) (C := ν 18) hn.2.2.2.2.2.2.2.1 hn.2.2.2.2.2.2.2.2 m27 hR7.2.2.1.2.2.2.2.2.2.2.2
  have hR8 := Rs_sc hR7 (row_sc hq8)
  have e0 := hq8 0 (by decide) (by decide)
  have q1' : pcm (pn (ν 5) (ν 6 0)).2.2.2 σ8 := by
    unfold pcm at q1 ⊢
    rw [e0, hq8 7 (by decide) (by decide), hq8 8 (by decide) (by decide)]
    exact q1
  obtain ⟨r13, a13, b13⟩ := both_faced (σx := σs) (σm := σ8) hR8.2.2.2.2.1 q1' (by rw [e0]; exact q12) (by rw [e0]; exact q13)
  have la : fr_loop (fun (b39 : Int64 × Int32) => zX10_digest_L333 b39.1 b39.2) fr_fu (31 * h7 + r8.toInt64, 0) = some (31 * (31 * (31 * h7 + r8.toInt64) + r9.toInt64) + r10.toInt64) := lp_2 (body := fun (b39 : Int64 × Int32) => zX10_digest_L333 b39.1 b39.2) (b0 := (31 * h7 + r8.toInt64, 0)) (b1 := (31 * (31 * h7 + r8.toInt64) + r9.toInt64, 1)) (b2 := (31 * (31 * (31 * h7 + r8.toInt64) + r9.toInt64) + r10.toInt64, 2)) (by
      show zX10_digest_L333 _ 0 = _
      unfold zX10_digest_L333
      rw [if_neg (by decide), b9, Option.bind_some]
      rfl) (by
      show zX10_digest_L333 _ 1 = _
      unfold zX10_digest_L333
      rw [if_neg (by decide), b10, Option.bind_some]
      rfl) (by
      show zX10_digest_L333 _ 2 = _
      unfold zX10_digest_L333
      rw [if_pos (by decide)])
  have ll := dg_lent (h0 := 31 * (31 * (31 * (31 * h7 + r8.toInt64) + r9.toInt64) + r10.toInt64) + r11.toInt64) hn hR8.2.1 hR8.2.2.2.2.1
  have lr := dg_row (C := ν 18) (n := ν 0 27) (σ := σ8) (h0 := 31 * (31 * (31 * (31 * (31 * h7 + r8.toInt64) + r9.toInt64) + r10.toInt64) + r11.toInt64) + (nI (st_b (ν 18) (ν 0 27)).1).toInt64) hn.2.2.2.2.2.2.2.1 (by rw [e0]; exact m27) h20
  generalize hH : 31 * (31 * (31 * (31 * (31 * (31 * (31 * h7 + r8.toInt64) + r9.toInt64) + r10.toInt64) + r11.toInt64) + (nI (st_b (ν 18) (ν 0 27)).1).toInt64) + (lv (ν 18) (ν 0 27) 0).toInt64) + (lv (ν 18) (ν 0 27) 1).toInt64 = H at *
  refine ⟨31 * H + r13.toInt64, σs, σ8, ?_, ?_, Rs_Rl hR8⟩
  · unfold zX9_digest
    rw [l1, Option.bind_some]
    dsimp only
    rw [a4, Option.bind_some, ef0, ef1]
    dsimp only
    rw [show fr_loop (fun (b7 : Int64 × Int32 × fr_St) => zX9_digest_L63 b7.1 b7.2.1 b7.2.2) fr_fu (zX9_mixed (zX9_mixed (zX9_mixed h1 ((oI (pn (ν 5) (ν 6 0)).1).toInt64)) ((oI (rd_lp (fun i => ν 5 (40 + i)) (ν 6 1) 0)).toInt64)) r4.toInt64, 0, σs) = some (h5, σs) from a5, Option.bind_some]
    dsimp only
    rw [a6, Option.bind_some]
    dsimp only
    rw [a7, Option.bind_some]
    dsimp only
    rw [show zX9_melts σs 30 6 5 = some (r8, σs) from a8, Option.bind_some, a9, Option.bind_some, a10, Option.bind_some]
    dsimp only
    rw [a11, Option.bind_some]
    rw [show fr_loop (fun (b26 : Int64 × Int32) => zX9_digest_L218 σs b26.1 b26.2) fr_fu (zX9_mixed (zX9_mixed (zX9_mixed (zX9_mixed h7 r8.toInt64) r9.toInt64) r10.toInt64) r11.toInt64, -1) = some H from ll, Option.bind_some, a13, Option.bind_some]
    rfl
  · unfold zX10_digest
    rw [l1', Option.bind_some]
    dsimp only
    rw [e2, Option.bind_some]
    dsimp only
    rw [e3, Option.bind_some]
    dsimp only
    rw [b4, Option.bind_some]
    dsimp only
    rw [b5, Option.bind_some]
    dsimp only
    rw [b6, Option.bind_some]
    dsimp only
    rw [b7, Option.bind_some, show zX10_meltsOf σ6 30 5 = some r8 from b8, Option.bind_some, la, Option.bind_some, b11, Option.bind_some]
    dsimp only
    rw [e12, Option.bind_some]
    dsimp only
    rw [lr, Option.bind_some, b13, Option.bind_some]
