/-! what the two systems have in common: numbers ν (rows as the reference has them), and what the class keeps beside them -/
def nup (ν : Nat → Nat → Nat) (q j v : Nat) : Nat → Nat → Nat := fun a => if a = q then (fun b => if b = j then v else ν a b) else ν a
def oI : Option Nat → Int32
  | none => -1
  | some i => nI i
def ouS (x : Option Nat) : Nat := match x with
  | none => 0
  | some _ => 1
def ou0 (x : Option Nat) : Nat := match x with
  | some 0 => 1
  | _ => 0
def upO (g : Nat → Option Nat) (k v : Nat) : Nat → Option Nat := fun j => if j = k then some v else g j
def upN (g : Nat → Nat) (k v : Nat) : Nat → Nat := fun j => if j = k then v else g j
/-- whether a row may end -/
def pn_me (r c w : Nat) : Bool := if r = 0 then decide (0 < c) else decide (r < 4) && decide (c = w)
/-- the pane's text read on from byte i, k bytes left: its fault, rows, width, cells -/
def pn_lp (T : Nat → Nat) : Nat → Nat → Nat → Nat → Nat → (Nat → Option Nat) → Option Nat × Nat × Nat × (Nat → Option Nat)
  | 0, i, r, c, w, g => if i = 0 then (none, 0, 0, g) else if pn_me r c w then (none, r + 1, if r = 0 then c else w, g) else (some i, 0, 0, fun _ => none)
  | k + 1, i, r, c, w, g =>
    if T i = 59 then (if pn_me r c w then pn_lp T k (i + 1) (r + 1) 0 (if r = 0 then c else w) g else (some i, 0, 0, fun _ => none))
    else if 48 ≤ T i ∧ T i ≤ 57 ∧ r < 4 ∧ c < w then pn_lp T k (i + 1) r (c + 1) w (upO g (8 * r + c) (T i - 48)) else (some i, 0, 0, fun _ => none)
def pn (T : Nat → Nat) (n : Nat) : Option Nat × Nat × Nat × (Nat → Option Nat) := pn_lp T n 0 0 0 8 (fun _ => none)
def pnx (T : Nat → Nat) (n : Nat) (σ : fr_St) : Prop :=
  σ 1 2 = oI (pn T n).1 ∧ (∀ c, c < 32 → σ 6 c = oI ((pn T n).2.2.2 c)) ∧ σ 1 3 = nI (su (fun c => ouS ((pn T n).2.2.2 c)) 32) ∧ σ 1 4 = nI (su (fun c => ((pn T n).2.2.2 c).getD 0) 32) ∧ σ 1 5 = nI (su (fun c => ou0 ((pn T n).2.2.2 c)) 32)
/-- the road -/
def rd_k (b : Nat) : Option Nat := if b = 46 then some 0 else if b = 108 then some 1 else if b = 114 then some 2 else if b = 115 then some 3 else if b = 120 then some 4 else none
def rd_lp (T : Nat → Nat) : Nat → Nat → Option Nat
  | 0, _ => none
  | k + 1, i => match rd_k (T i) with
    | none => some i
    | some _ => rd_lp T k (i + 1)
def rd_n (T : Nat → Nat) (n : Nat) : Nat := match rd_lp T n 0 with
  | none => n
  | some _ => 0
def rd_m (T : Nat → Nat) (n k : Nat) : Nat := su (fun i => if rd_k (T i) = some k then 1 else 0) (rd_n T n)
def rdx (T : Nat → Nat) (n : Nat) (σ : fr_St) : Prop := σ 7 2 = oI (rd_lp T n 0) ∧ σ 7 3 = nI (rd_n T n) ∧ ∀ k, k < 5 → σ 8 k = nI (rd_m T n k)
/-- the street: the least that all are late, and the least row that is so late -/
def st_late (C : Nat → Nat) (c t : Nat) : Nat := t + C (2 * c) - C (2 * c + 1)
def st_pick (f : Nat → Nat × List Nat) : List Nat → Option (Nat × List Nat)
  | [] => none
  | c :: r => match st_pick f r with
    | none => some (f c)
    | some b => if b.1 < (f c).1 then some b else some (f c)
def st_best (C : Nat → Nat) : Nat → List Nat → Nat → Nat × List Nat
  | 0, _, _ => (0, [])
  | n + 1, R, t => (st_pick (fun c => (st_late C c t + (st_best C n (R.erase c) (t + C (2 * c))).1, c :: (st_best C n (R.erase c) (t + C (2 * c))).2)) R).getD (0, [])
def st_b (C : Nat → Nat) (n : Nat) : Nat × List Nat := st_best C n (List.range n) 0
def stx (C : Nat → Nat) (n : Nat) (σ : fr_St) : Prop := σ 28 0 = nI (st_b C n).1 ∧ ∀ i, i < n → σ 27 i = nI ((st_b C n).2.getD i 0)
/-- the morning: how thick behind k strokes, what tools do still; what stroke i took -/
def mo_s (g : Nat → Option Nat) (hol : Nat → Nat) (sk : Nat → Nat) : Nat → (Nat → Nat) × (Nat → Nat)
  | 0 => (fun c => (g c).getD 0, hol)
  | k + 1 => if 0 < (mo_s g hol sk k).1 (sk (2 * k + 1)) ∧ (mo_s g hol sk k).1 (sk (2 * k + 1)) ≤ (mo_s g hol sk k).2 (sk (2 * k)) then
      (upN (mo_s g hol sk k).1 (sk (2 * k + 1)) 0, upN (mo_s g hol sk k).2 (sk (2 * k)) ((mo_s g hol sk k).2 (sk (2 * k)) - (mo_s g hol sk k).1 (sk (2 * k + 1)))) else mo_s g hol sk k
def mo_t (g : Nat → Option Nat) (hol : Nat → Nat) (sk : Nat → Nat) (k : Nat) : Nat :=
  if 0 < (mo_s g hol sk k).1 (sk (2 * k + 1)) ∧ (mo_s g hol sk k).1 (sk (2 * k + 1)) ≤ (mo_s g hol sk k).2 (sk (2 * k)) then (mo_s g hol sk k).1 (sk (2 * k + 1)) else 0
/-- a cell's part of the road's risk -/
def mo_h (T : Nat → Nat) (n : Nat) (lk : Nat → Nat) (c : Nat) : Nat := su (fun k => rd_m T n k * lk (32 * k + c)) 5
/-- the order: cells put in one by one, each behind those that it isn't quicker than -/
def mo_q (h th : Nat → Nat) (a b : Nat) : Bool := decide (h b * th a < h a * th b)
def mo_i (h th : Nat → Nat) (c : Nat) : List Nat → List Nat
  | [] => [c]
  | x :: r => if mo_q h th c x then c :: x :: r else x :: mo_i h th c r
def mo_o (h th : Nat → Nat) : Nat → List Nat
  | 0 => []
  | c + 1 => if 0 < th c ∧ 0 < h c then mo_i h th c (mo_o h th c) else mo_o h th c
def mor (ν : Nat → Nat → Nat) (σ : fr_St) : Prop :=
  ∃ (g : Nat → Option Nat) (th lf h : Nat → Nat), g = (pn (ν 5) (ν 6 0)).2.2.2 ∧ th = (mo_s g (ν 12) (ν 14) (ν 0 19)).1 ∧ lf = (mo_s g (ν 12) (ν 14) (ν 0 19)).2 ∧ h = mo_h (fun i => ν 5 (40 + i)) (ν 6 1) (ν 13) ∧
  (∀ i, i < ν 0 19 → σ 18 i = nI (mo_t g (ν 12) (ν 14) i)) ∧ (∀ c, c < 32 → σ 19 c = if g c = none then -1 else nI (th c)) ∧ (∀ t, t < 4 → σ 20 t = nI (lf t)) ∧ (∀ c, c < 32 → σ 21 c = nI (h c)) ∧
  σ 17 6 = nI (mo_o h th 32).length ∧ (∀ i, i < (mo_o h th 32).length → σ 22 i = nI ((mo_o h th 32).getD i 0)) ∧ σ 17 7 = nI (su th 32) ∧ (∀ l, 1 ≤ l → l < 10 → σ 23 l = nI (su (fun c => if th c = l then 1 else 0) 32))
def mox (ν : Nat → Nat → Nat) (σ : fr_St) : Prop := σ 0 8 = 1 ∨ (σ 0 8 = 0 ∧ mor ν σ)
def nb (ν : Nat → Nat → Nat) : Prop :=
  (ν 6 0 ≤ 35 ∧ ν 6 1 ≤ 40) ∧ (∀ j, j < 80 → ν 5 j ≤ 255) ∧ (∀ t, t < 4 → 1 ≤ ν 11 t ∧ ν 11 t ≤ 60) ∧ (∀ t, t < 4 → ν 12 t ≤ 99) ∧ (∀ k, k < 160 → ν 13 k ≤ 9) ∧ ν 0 19 ≤ 40 ∧ (∀ i, i < 40 → ν 14 (2 * i) < 4 ∧ ν 14 (2 * i + 1) < 32) ∧ ν 0 27 ≤ 7 ∧ (∀ j, j < 14 → ν 18 j ≤ 9999)
def xb (ν : Nat → Nat → Nat) (σ : fr_St) : Prop :=
  (σ 2 1 = nI (ν 6 0) ∧ σ 3 1 = nI (ν 6 1)) ∧ (∀ j, j < 35 → σ 4 j = nI (ν 5 j)) ∧ (∀ j, j < 40 → σ 5 j = nI (ν 5 (40 + j))) ∧ (∀ t, t < 4 → σ 10 t = nI (ν 11 t)) ∧ (∀ t, t < 4 → σ 11 t = nI (ν 12 t)) ∧ (∀ k, k < 160 → σ 13 k = nI (ν 13 k)) ∧ σ 14 2 = nI (ν 0 19) ∧ (∀ i, i < 40 → σ 15 i = nI (ν 14 (2 * i)) ∧ σ 16 i = nI (ν 14 (2 * i + 1))) ∧ σ 24 4 = nI (ν 0 27) ∧ (∀ i, i < 7 → σ 25 i = nI (ν 18 (2 * i)) ∧ σ 26 i = nI (ν 18 (2 * i + 1)))
def mb (ν : Nat → Nat → Nat) (σ : fr_St) : Prop :=
  (σ 6 0 = nI (ν 6 0) ∧ σ 6 1 = nI (ν 6 1)) ∧ (∀ j, j < 80 → σ 5 j = nI (ν 5 j)) ∧ (∀ t, t < 4 → σ 11 t = nI (ν 11 t)) ∧ (∀ t, t < 4 → σ 12 t = nI (ν 12 t)) ∧ (∀ k, k < 160 → σ 13 k = nI (ν 13 k)) ∧ σ 0 19 = nI (ν 0 19) ∧ (∀ j, j < 80 → σ 14 j = nI (ν 14 j)) ∧ σ 0 27 = nI (ν 0 27) ∧ (∀ j, j < 14 → σ 18 j = nI (ν 18 j))
/-- the sheets -/
def shr (σx σm : fr_St) : Prop := ∀ s, s < 4 → (∃ n, n ≤ 60 ∧ σx (30 + s) 2 = nI n ∧ σm 2 s = nI n ∧ ∀ i, i < n → σx (34 + s) i = σm 3 (60 * s + i)) ∧ σx (30 + s) 1 = σm 1 s ∧ (σm 1 s = -1 ∨ ∃ f, f ≤ 2 ∧ σm 1 s = nI f)
/-- what the class keeps beside the numbers, the morning aside -/
def xd (ν : Nat → Nat → Nat) (σ : fr_St) : Prop := pnx (ν 5) (ν 6 0) σ ∧ rdx (fun i => ν 5 (40 + i)) (ν 6 1) σ ∧ stx (ν 18) (ν 0 27) σ
def Rl (σx σm : fr_St) : Prop := ∃ ν : Nat → Nat → Nat, nb ν ∧ xb ν σx ∧ mb ν σm ∧ shr σx σm ∧ xd ν σx ∧ mox ν σx ∧ σx 0 9 = σm 0 4
/-- states of the class that differ in the rows listed only -/
def sm_x (l : List Nat) (σ σ' : fr_St) : Prop := ∀ q, q ∉ l → σ' q = σ q
theorem xb_rows {ν : Nat → Nat → Nat} {σ σ' : fr_St} (h : xb ν σ) (e : ∀ q ∈ [2, 3, 4, 5, 10, 11, 13, 14, 15, 16, 24, 25, 26], σ' q = σ q) : xb ν σ' := by
  unfold xb at h ⊢
  simp only [e 2 (by decide), e 3 (by decide), e 4 (by decide), e 5 (by decide), e 10 (by decide), e 11 (by decide), e 13 (by decide), e 14 (by decide), e 15 (by decide), e 16 (by decide), e 24 (by decide), e 25 (by decide), e 26 (by decide)]
  exact h
theorem mb_rows {ν : Nat → Nat → Nat} {σ σ' : fr_St} (h : mb ν σ) (e : ∀ q ∈ [5, 6, 11, 12, 13, 14, 18], σ' q = σ q) (e1 : σ' 0 19 = σ 0 19) (e2 : σ' 0 27 = σ 0 27) : mb ν σ' := by
  unfold mb at h ⊢
  simp only [e 5 (by decide), e 6 (by decide), e 11 (by decide), e 12 (by decide), e 13 (by decide), e 14 (by decide), e 18 (by decide), e1, e2]
  exact h
theorem xd_rows {ν : Nat → Nat → Nat} {σ σ' : fr_St} (h : xd ν σ) (e : ∀ q ∈ [1, 6, 7, 8, 27, 28], σ' q = σ q) : xd ν σ' := by
  unfold xd pnx rdx stx at h ⊢
  simp only [e 1 (by decide), e 6 (by decide), e 7 (by decide), e 8 (by decide), e 27 (by decide), e 28 (by decide)]
  exact h
theorem mor_rows {ν : Nat → Nat → Nat} {σ σ' : fr_St} (h : mor ν σ) (e : ∀ q ∈ [17, 18, 19, 20, 21, 22, 23], σ' q = σ q) : mor ν σ' := by
  unfold mor at h ⊢
  simp only [e 17 (by decide), e 18 (by decide), e 19 (by decide), e 20 (by decide), e 21 (by decide), e 22 (by decide), e 23 (by decide)]
  exact h
theorem mox_rows {ν : Nat → Nat → Nat} {σ σ' : fr_St} (h : mox ν σ) (e : ∀ q ∈ [17, 18, 19, 20, 21, 22, 23], σ' q = σ q) (e0 : σ' 0 8 = σ 0 8) : mox ν σ' := by
  unfold mox at h ⊢
  rw [e0]
  exact h.imp id (fun h => ⟨h.1, mor_rows h.2 e⟩)
theorem shr_x {σx σx' σm : fr_St} (h : shr σx σm) (e : ∀ q, 30 ≤ q → q < 38 → σx' q = σx q) : shr σx' σm := by
  intro s hs
  have := h s hs
  rw [e (30 + s) (by omega) (by omega), e (34 + s) (by omega) (by omega)]
  exact this
theorem shr_m {σx σm σm' : fr_St} (h : shr σx σm) (e : ∀ q ∈ [1, 2, 3], σm' q = σm q) : shr σx σm' := by
  intro s hs
  have := h s hs
  rw [e 1 (by decide), e 2 (by decide), e 3 (by decide)]
  exact this
