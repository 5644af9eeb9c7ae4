/-! the system's states as numbers: cell q, place j; a shape says what each cell is -/
abbrev fr_St : Type := Nat → Nat → Int32
def fr_row (σ : fr_St) (q : Nat) (f : Nat → Int32) : fr_St := fun a => if a = q then f else σ a
def fr_put (σ : fr_St) (q j : Nat) (v : Int32) : fr_St := fr_row σ q (upd (σ q) j v)
/-- (0, n, _): n ints; (1, n, _): n booleans; (2, n, refs): n references; (3, class, fields): an object, none an int, some q the cell q -/
abbrev fr_Sh : Type := Nat × Nat × List (Option Nat)
def fr_fl (ad : Nat → Nat) (f : Nat → Int32) : Nat → List (Option Nat) → List Value
  | _, [] => []
  | j, none :: r => .int (f j) :: fr_fl ad f (j + 1) r
  | j, some q :: r => .ref (ad q) :: fr_fl ad f (j + 1) r
def fr_ce (cs : Nat → ClassId) (ad : Nat → Nat) (f : Nat → Int32) (x : fr_Sh) : va_E :=
  match x with
  | (0, n, _) => .inl (cs 0, n, .inl f)
  | (1, n, _) => .inl (cs 1, n, .inl f)
  | (2, n, l) => .inl (cs 2, n, .inr (.inr (.inr (.inr (fun j => (l.getD j none).map ad)))))
  | (_, c, l) => .inr (c, fr_fl ad f 0 l)
def fr_wl (cs : Nat → ClassId) (ad : Nat → Nat) (σ : fr_St) : Nat → List fr_Sh → va_W
  | _, [] => []
  | q, x :: r => (ad q, fr_ce cs ad (σ q) x) :: fr_wl cs ad σ (q + 1) r
theorem fr_fl_congr {ad : Nat → Nat} {f g : Nat → Int32} : ∀ (l : List (Option Nat)) (j : Nat), (∀ i, j ≤ i → f i = g i) → fr_fl ad f j l = fr_fl ad g j l
  | [], _, _ => rfl
  | none :: r, j, h => by
    show Value.int (f j) :: fr_fl ad f (j + 1) r = Value.int (g j) :: fr_fl ad g (j + 1) r
    rw [h j (Nat.le_refl _), fr_fl_congr r (j + 1) (fun i hi => h i (by omega))]
  | some q :: r, j, h => by
    show Value.ref (ad q) :: fr_fl ad f (j + 1) r = Value.ref (ad q) :: fr_fl ad g (j + 1) r
    rw [fr_fl_congr r (j + 1) (fun i hi => h i (by omega))]
theorem fr_fl_len {ad : Nat → Nat} {f : Nat → Int32} : ∀ (l : List (Option Nat)) (j : Nat), (fr_fl ad f j l).length = l.length
  | [], _ => rfl
  | none :: r, j => by show (fr_fl ad f (j + 1) r).length + 1 = r.length + 1; rw [fr_fl_len r]
  | some q :: r, j => by show (fr_fl ad f (j + 1) r).length + 1 = r.length + 1; rw [fr_fl_len r]
theorem fr_fl_i {ad : Nat → Nat} {f : Nat → Int32} : ∀ (l : List (Option Nat)) (j k : Nat), l[k]? = some none → (fr_fl ad f j l)[k]? = some (.int (f (j + k)))
  | [], _, _, h => by simp at h
  | none :: r, j, 0, h => rfl
  | some q :: r, j, 0, h => by simp at h
  | none :: r, j, k + 1, h => by
    show (fr_fl ad f (j + 1) r)[k]? = _
    rw [fr_fl_i r (j + 1) k (by simpa using h), show j + 1 + k = j + (k + 1) by omega]
  | some q :: r, j, k + 1, h => by
    show (fr_fl ad f (j + 1) r)[k]? = _
    rw [fr_fl_i r (j + 1) k (by simpa using h), show j + 1 + k = j + (k + 1) by omega]
theorem fr_fl_r {ad : Nat → Nat} {f : Nat → Int32} {q' : Nat} : ∀ (l : List (Option Nat)) (j k : Nat), l[k]? = some (some q') → (fr_fl ad f j l)[k]? = some (.ref (ad q'))
  | [], _, _, h => by simp at h
  | none :: r, j, 0, h => by simp at h
  | some q :: r, j, 0, h => by
    have : q = q' := by simpa using h
    subst this; rfl
  | none :: r, j, k + 1, h => by
    show (fr_fl ad f (j + 1) r)[k]? = _
    exact fr_fl_r r (j + 1) k (by simpa using h)
  | some q :: r, j, k + 1, h => by
    show (fr_fl ad f (j + 1) r)[k]? = _
    exact fr_fl_r r (j + 1) k (by simpa using h)
theorem fr_fl_set {ad : Nat → Nat} {f : Nat → Int32} {x : Int32} : ∀ (l : List (Option Nat)) (j k : Nat), l[k]? = some none → (fr_fl ad f j l).set k (.int x) = fr_fl ad (upd f (j + k) x) j l
  | [], _, _, h => by simp at h
  | some q :: r, j, 0, h => by simp at h
  | none :: r, j, 0, h => by
    show Value.int x :: fr_fl ad f (j + 1) r = Value.int (upd f (j + 0) x j) :: fr_fl ad (upd f (j + 0) x) (j + 1) r
    rw [fr_fl_congr (g := upd f (j + 0) x) r (j + 1) (fun i hi => by simp [upd]; omega)]
    simp [upd]
  | none :: r, j, k + 1, h => by
    show Value.int (f j) :: (fr_fl ad f (j + 1) r).set k (.int x) = Value.int (upd f (j + (k + 1)) x j) :: fr_fl ad (upd f (j + (k + 1)) x) (j + 1) r
    rw [fr_fl_set r (j + 1) k (by simpa using h), show j + 1 + k = j + (k + 1) by omega]
    simp [upd]
  | some q :: r, j, k + 1, h => by
    show Value.ref (ad q) :: (fr_fl ad f (j + 1) r).set k (.int x) = Value.ref (ad q) :: fr_fl ad (upd f (j + (k + 1)) x) (j + 1) r
    rw [fr_fl_set r (j + 1) k (by simpa using h), show j + 1 + k = j + (k + 1) by omega]
theorem fr_wl_congr {cs : Nat → ClassId} {ad : Nat → Nat} {σ τ : fr_St} : ∀ (S : List fr_Sh) (q : Nat), (∀ a, q ≤ a → σ a = τ a) → fr_wl cs ad σ q S = fr_wl cs ad τ q S
  | [], _, _ => rfl
  | x :: r, q, h => by
    show (ad q, fr_ce cs ad (σ q) x) :: fr_wl cs ad σ (q + 1) r = (ad q, fr_ce cs ad (τ q) x) :: fr_wl cs ad τ (q + 1) r
    rw [h q (Nat.le_refl _), fr_wl_congr r (q + 1) (fun a ha => h a (by omega))]
theorem fr_wl_get {cs : Nat → ClassId} {ad : Nat → Nat} {σ : fr_St} {x : fr_Sh} : ∀ (S : List fr_Sh) (q k : Nat), S[k]? = some x → (fr_wl cs ad σ q S)[k]? = some (ad (q + k), fr_ce cs ad (σ (q + k)) x)
  | [], _, _, h => by simp at h
  | y :: r, q, 0, h => by
    have : y = x := by simpa using h
    subst this; rfl
  | y :: r, q, k + 1, h => by
    show (fr_wl cs ad σ (q + 1) r)[k]? = _
    rw [fr_wl_get r (q + 1) k (by simpa using h), show q + 1 + k = q + (k + 1) by omega]
theorem fr_wl_set {cs : Nat → ClassId} {ad : Nat → Nat} {σ : fr_St} {x : fr_Sh} {f : Nat → Int32} : ∀ (S : List fr_Sh) (q k : Nat), S[k]? = some x → (fr_wl cs ad σ q S).set k (ad (q + k), fr_ce cs ad f x) = fr_wl cs ad (fr_row σ (q + k) f) q S
  | [], _, _, h => by simp at h
  | y :: r, q, 0, h => by
    have : y = x := by simpa using h
    subst this
    show (ad (q + 0), fr_ce cs ad f y) :: fr_wl cs ad σ (q + 1) r = (ad q, fr_ce cs ad (fr_row σ (q + 0) f q) y) :: fr_wl cs ad (fr_row σ (q + 0) f) (q + 1) r
    rw [fr_wl_congr (τ := fr_row σ (q + 0) f) r (q + 1) (fun a ha => by simp [fr_row]; omega)]
    simp [fr_row]
  | y :: r, q, k + 1, h => by
    show (ad q, fr_ce cs ad (σ q) y) :: (fr_wl cs ad σ (q + 1) r).set k _ = (ad q, fr_ce cs ad (fr_row σ (q + (k + 1)) f q) y) :: fr_wl cs ad (fr_row σ (q + (k + 1)) f) (q + 1) r
    rw [show q + (k + 1) = q + 1 + k by omega, fr_wl_set r (q + 1) k (by simpa using h)]
    simp [fr_row, show ¬ q = q + 1 + k by omega]
theorem fr_wl_len {cs : Nat → ClassId} {ad : Nat → Nat} {σ : fr_St} : ∀ (S : List fr_Sh) (q : Nat), (fr_wl cs ad σ q S).length = S.length
  | [], _ => rfl
  | x :: r, q => by show (fr_wl cs ad σ (q + 1) r).length + 1 = r.length + 1; rw [fr_wl_len r]
/-! contexts -/
abbrev fr_G : Type := Program × Launch × Env × Room × State × MethodId × Array Value × List Frame × Method × Code × Nat × Nat × (State → Prop)
abbrev fr_W : Type := va_G × (Nat → ClassId) × (Nat → Prop) × (Nat → Nat) × va_W × List fr_Sh
def fr_ad (w : fr_W) : Nat → Nat := w.2.2.2.1
def fr_A (w : fr_W) : Nat → Prop := w.2.2.1
def fr_sh (w : fr_W) : List fr_Sh := w.2.2.2.2.2
def fr_wd (w : fr_W) (σ : fr_St) : va_W := fr_wl w.2.1 (fr_ad w) σ 0 (fr_sh w) ++ w.2.2.2.2.1
def fr_ty (w : fr_W) : List (ClassId × FieldType) := [(w.2.1 0, .int), (w.2.1 1, .boolean), (w.2.1 2, .object "FrostHole$Sheet")]
def fr_gw : List Cond := lw_tbl.filter goodWord
theorem fr_gwT {x : Cond} (i : Nat) (h : tables_1[i]? = some x) (hg : goodWord x = true) : x ∈ fr_gw := List.mem_filter.mpr ⟨List.mem_append_right _ (List.mem_of_getElem? h), hg⟩
theorem fr_gwP {x : Cond} (i : Nat) (h : (k2_sels lw_privs)[i]? = some x) (hg : goodWord x = true) : x ∈ fr_gw := List.mem_filter.mpr ⟨List.mem_append_left _ (List.mem_of_getElem? h), hg⟩
theorem fr_good {y : Cond} {x : Cond} (h : x ∈ fr_gw) : GoodIn (y :: fr_gw) (x :: fr_gw) := fun z hz => by
  have hz : z ∈ fr_gw := by
    rcases List.mem_cons.mp hz with e | e
    · rw [e]; exact h
    · exact e
  exact ⟨List.mem_cons_of_mem _ hz, good_of_word (List.mem_filter.mp hz).2⟩
def fr_nl : List (String × Nat × MethodName × String) := [("FrostHole", 18, ⟨"FrostHole$Road", "<init>", "()V"⟩, "FrostHole"), ("FrostHole", 25, ⟨"FrostHole$Kit", "<init>", "()V"⟩, "FrostHole"), ("FrostHole", 39, ⟨"FrostHole$Strokes", "<init>", "()V"⟩, "FrostHole"), ("FrostHole", 46, ⟨"FrostHole$Morning", "<init>", "()V"⟩, "FrostHole"), ("FrostHole", 53, ⟨"FrostHole$Street", "<init>", "()V"⟩, "FrostHole"), ("FrostHole", 72, ⟨"FrostHole$Sheet", "<init>", "()V"⟩, "FrostHole"), ("FrostHole$Pane", 60, ⟨"FrostHole", "within", "(III)Z"⟩, "FrostHole"), ("FrostHole$Pane", 67, ⟨"FrostHole", "isCell", "(I)Z"⟩, "FrostHole"), ("FrostHole$Road", 47, ⟨"FrostHole", "isKind", "(I)Z"⟩, "FrostHole"), ("FrostHole$Views", 15, ⟨"FrostHole", "isKind", "(I)Z"⟩, "FrostHole"), ("FrostHole$Views", 19, ⟨"FrostHole", "isCell", "(I)Z"⟩, "FrostHole"), ("FrostHole$Morning", 64, ⟨"FrostHole", "isTool", "(I)Z"⟩, "FrostHole"), ("FrostHole$Morning", 68, ⟨"FrostHole", "isCell", "(I)Z"⟩, "FrostHole"), ("FrostHole$Morning", 87, ⟨"FrostHole", "within", "(III)Z"⟩, "FrostHole"), ("FrostHole$Road", 51, ⟨"FrostHole", "within", "(III)Z"⟩, "FrostHole"), ("FrostHole$Morning", 98, ⟨"FrostHole", "isKind", "(I)Z"⟩, "FrostHole"), ("FrostHole$Sheet", 32, ⟨"FrostHole", "within", "(III)Z"⟩, "FrostHole")]
def fr_kk (w : fr_W) (U : State) : Prop := va_K w.1 vwCl (fr_ty w) U ∧ ∀ q ∈ fr_nl, va_Nw (.methodLinkNest q.1 q.2.1 q.2.2.1 q.2.2.2) U
theorem fr_kk_warm {w : fr_W} {s U : State} (hW : s.WarmedH U.vm) (h : fr_kk w s) : fr_kk w U := ⟨va_K.moved hW.alike h.1, fun q hq => va_Nw.warmM hW (h.2 q hq)⟩
theorem fr_kk_same {w : fr_W} {s U : State} (hv : s.vm = U.vm) (h : fr_kk w s) : fr_kk w U := ⟨va_K.moved (by rw [hv]; exact Vm.Alike.refl U.vm) h.1, fun q hq => va_Nw.same rfl hv (h.2 q hq)⟩
def fr_K (g : fr_G) (w : fr_W) (nL pc : Nat) (ls : List (Nat × Value)) (st : List Value) (σ : fr_St) : Prop :=
  ∀ (H : Heap) (locs : List Loc) (la : Array Slot), va_P w.1 vwCl (fr_wd w σ) H → va_S (fr_A w) g.2.2.2.2.1.heap H locs → lv_has la nL ls →
    W g.1 g.2.1 g.2.2.1 g.2.2.2.1 g.2.2.2.2.1 g.2.2.2.2.2.1 g.2.2.2.2.2.2.1 g.2.2.2.2.2.2.2.1 g.2.2.2.2.2.2.2.2.1 g.2.2.2.2.2.2.2.2.2.1 H locs g.2.2.2.2.2.2.2.2.2.2.1 g.2.2.2.2.2.2.2.2.2.2.2.1 g.2.2.2.2.2.2.2.2.2.2.2.2 (F0 g.2.2.2.2.2.1 pc la st)
def fr_ok (g : fr_G) (w : fr_W) (S : List fr_Sh) (cc : ByteArray) (nL : Nat) (own : String) (fr lo : Nat) : Prop :=
  g.1.tables.exec = Jvm.exec ∧ g.2.2.2.2.2.2.2.2.2.1.code = cc ∧ g.2.2.2.2.2.2.2.2.2.1.maxLocals = nL ∧ g.2.2.2.2.1.vm.findClass own = some g.2.2.2.2.2.1.cls ∧ (∀ x ∈ fr_gw, x.before g.2.2.2.2.2.2.1 g.2.2.2.2.1 = true) ∧ fr_kk w g.2.2.2.2.1 ∧ fr_sh w = S ∧ (∀ σ, va_D (fr_A w) (fr_wd w σ)) ∧ g.2.2.2.2.2.2.2.2.1.locks = false ∧ g.2.2.2.1.frames = fr ∧ g.2.2.2.1.locals = lo ∧ g.2.2.2.2.2.2.2.2.2.2.1 ≤ g.2.2.2.1.cells ∧ g.2.2.2.2.2.2.2.2.2.2.2.1 ≤ g.2.2.2.1.slots
def fr_V (g : fr_G) (w : fr_W) (nL : Nat) {τ : Type} (F : Option τ) (P : τ → Prop) (pc : Nat) (ls : List (Nat × Value)) (st : List Value) (σ : fr_St) : Prop := ∀ t, F = some t → P t → fr_K g w nL pc ls st σ
/-! the parts of a program that may fail -/
def fr_in (i : Int32) (n : Nat) : Prop := 0 ≤ i.toInt ∧ i.toInt < n
def fr_al (n : Nat) (σ : fr_St) (q : Nat) (i : Int32) : Option Int32 := if 0 ≤ i.toInt ∧ i.toInt < n then some (σ q i.toNatClampNeg) else none
def fr_as (n : Nat) (σ : fr_St) (q : Nat) (i v : Int32) : Option fr_St := if 0 ≤ i.toInt ∧ i.toInt < n then some (fr_put σ q i.toNatClampNeg v) else none
def fr_ar (n : Nat) (i : Int32) : Option Nat := if 0 ≤ i.toInt ∧ i.toInt < n then some i.toNatClampNeg else none
def fr_dv (x y : Int32) : Option Int32 := if y = 0 then none else some (x / y)
def fr_rm (x y : Int32) : Option Int32 := if y = 0 then none else some (x - x / y * y)
def fr_ldv (x y : Int64) : Option Int64 := if y = 0 then none else some (x / y)
def fr_lrm (x y : Int64) : Option Int64 := if y = 0 then none else some (x - x / y * y)
def fr_cp (n0 n1 : Nat) (σ : fr_St) (q0 : Nat) (sp : Int32) (q1 : Nat) (dp n : Int32) : Option fr_St :=
  if 0 ≤ sp.toInt ∧ 0 ≤ dp.toInt ∧ 0 ≤ n.toInt ∧ sp.toInt + n.toInt ≤ n0 ∧ dp.toInt + n.toInt ≤ n1 then some (fr_row σ q1 (va_cpy (σ q0) (σ q1) sp.toNatClampNeg dp.toNatClampNeg n.toNatClampNeg)) else none
def fr_z {α : Type} (r : Int32) (t : α) : Option α := if r = 0 ∨ r = 1 then some t else none
noncomputable def fr_fu : Nat := Classical.choose (p := fun n => 10000 ≤ n) ⟨10000, Nat.le_refl _⟩
theorem fr_fu_ge : 10000 ≤ fr_fu := Classical.choose_spec (p := fun n => 10000 ≤ n) ⟨10000, Nat.le_refl _⟩
def fr_loop {β γ : Type} (body : β → Option (β ⊕ γ)) : Nat → β → Option γ
  | 0, _ => none
  | n + 1, b => (body b).bind (fun x => match x with | .inl b' => fr_loop body n b' | .inr c => some c)
def fr_ei {ρ γ τ : Type} (f : ρ → Option τ) (h : γ → Option τ) (x : ρ ⊕ γ) : Option τ := match x with
  | .inl r => f r
  | .inr c => h c
/-! locals -/
def fr_lins (e : Nat × Value) : List (Nat × Value) → List (Nat × Value)
  | [] => [e]
  | q :: r => if e.1 < q.1 then e :: q :: r else q :: fr_lins e r
theorem fr_lins_mem {e x : Nat × Value} : ∀ {l : List (Nat × Value)}, x ∈ fr_lins e l → x ∈ e :: l
  | [], h => h
  | q :: r, h => by
    unfold fr_lins at h
    split at h
    · exact h
    · rcases List.mem_cons.mp h with h | h
      · rw [h]; exact List.mem_cons_of_mem _ List.mem_cons_self
      · rcases List.mem_cons.mp (fr_lins_mem h) with h | h
        · rw [h]; exact List.mem_cons_self
        · exact List.mem_cons_of_mem _ (List.mem_cons_of_mem _ h)
def fr_ls1 (i : Nat) (v : Value) (lv : List (Nat × Value)) : List (Nat × Value) := fr_lins (i, v) (lv.filter (fun q => !(q.1 == i) && !(q.1 + 1 == i && q.2.category == 2)))
def fr_ls2 (i : Nat) (v : Value) (lv : List (Nat × Value)) : List (Nat × Value) := fr_lins (i, v) (lv.filter (fun q => !(q.1 == i) && (!(q.1 == i + 1) && !(q.1 + 1 == i && q.2.category == 2))))
theorem fr_has {la : Array Slot} {nL : Nat} {e : Nat × Value} {l : List (Nat × Value)} (h : lv_has la nL (e :: l)) : lv_has la nL (fr_lins e l) := ⟨h.1, h.2.1, fun q hq => h.2.2 q (fr_lins_mem hq)⟩
section FRV
variable {g : fr_G} {w : fr_W} {S : List fr_Sh} {cc : ByteArray} {nL : Nat} {own : String} {fr lo : Nat} {τ : Type} {F F1 F2 : Option τ} {P : τ → Prop} {pc n : Nat} {ls ls' : List (Nat × Value)} {st : List Value} {σ : fr_St}

theorem fr_iconst (hg : fr_ok g w S cc nL own fr lo) {i : Int} {v : Int32} (hv : Int32.ofInt i = v) (d : decode cc pc = .ok (.iconst i, 1)) (hn : pc + 1 = n) (k : fr_V g w nL F P n ls (.int v :: st) σ) : fr_V g w nL F P pc ls st σ := by
  subst hn
  exact fun t h1 h2 H locs la hP hS hl => lv_iconst hg.1 hg.2.1 d hv (k t h1 h2 H locs la hP hS hl)
theorem fr_bipush (hg : fr_ok g w S cc nL own fr lo) {i : Int} {v : Int32} (hv : (Int8.ofInt i).toInt32 = v) (d : decode cc pc = .ok (.bipush i, 2)) (hn : pc + 2 = n) (k : fr_V g w nL F P n ls (.int v :: st) σ) : fr_V g w nL F P pc ls st σ := by
  subst hn
  exact fun t h1 h2 H locs la hP hS hl => lv_bipush hg.1 hg.2.1 d hv (k t h1 h2 H locs la hP hS hl)
theorem fr_sipush (hg : fr_ok g w S cc nL own fr lo) {i : Int} {v : Int32} (hv : (Int16.ofInt i).toInt32 = v) (d : decode cc pc = .ok (.sipush i, 3)) (hn : pc + 3 = n) (k : fr_V g w nL F P n ls (.int v :: st) σ) : fr_V g w nL F P pc ls st σ := by
  subst hn
  exact fun t h1 h2 H locs la hP hS hl => lv_sipush hg.1 hg.2.1 d hv (k t h1 h2 H locs la hP hS hl)
theorem fr_lconst (hg : fr_ok g w S cc nL own fr lo) {i : Fin 2} {v : Int64} (hv : Int64.ofNat (i : Nat) = v) (d : decode cc pc = .ok (.lconst i, 1)) (hn : pc + 1 = n) (k : fr_V g w nL F P n ls (.long v :: st) σ) : fr_V g w nL F P pc ls st σ := by
  subst hn
  exact fun t h1 h2 H locs la hP hS hl => lv_lconst hg.1 hg.2.1 d hv (k t h1 h2 H locs la hP hS hl)
theorem fr_ldc2 (hg : fr_ok g w S cc nL own fr lo) {ix : Nat} {v : Int64} (hc : Cond.constantLong own ix v ∈ fr_gw) (d : decode cc pc = .ok (.ldc2_w ix, 3)) (hn : pc + 3 = n) (k : fr_V g w nL F P n ls (.long v :: st) σ) : fr_V g w nL F P pc ls st σ := by
  subst hn
  exact fun t h1 h2 H locs la hP hS hl => lv_ldc2 hg.1 hg.2.1 hg.2.2.2.1 (hg.2.2.2.2.1 _ hc) d (k t h1 h2 H locs la hP hS hl)
theorem fr_ldc (hg : fr_ok g w S cc nL own fr lo) {ix : Nat} {v : Int32} (hc : Cond.constant own ix v ∈ fr_gw) (d : decode cc pc = .ok (.ldc ix, 2)) (hn : pc + 2 = n) (k : fr_V g w nL F P n ls (.int v :: st) σ) : fr_V g w nL F P pc ls st σ := by
  subst hn
  exact fun t h1 h2 H locs la hP hS hl => lv_ldc hg.1 hg.2.1 hg.2.2.2.1 (hg.2.2.2.2.1 _ hc) d (k t h1 h2 H locs la hP hS hl)
theorem fr_ldcw (hg : fr_ok g w S cc nL own fr lo) {ix : Nat} {v : Int32} (hc : Cond.constant own ix v ∈ fr_gw) (d : decode cc pc = .ok (.ldc_w ix, 3)) (hn : pc + 3 = n) (k : fr_V g w nL F P n ls (.int v :: st) σ) : fr_V g w nL F P pc ls st σ := by
  subst hn
  exact fun t h1 h2 H locs la hP hS hl => lv_ldcw hg.1 hg.2.1 hg.2.2.2.1 (hg.2.2.2.2.1 _ hc) d (k t h1 h2 H locs la hP hS hl)
theorem fr_iload_n (hg : fr_ok g w S cc nL own fr lo) {i : Fin 4} (j : Nat) {x : Int32} (hj : ls[j]? = some ((i : Nat), .int x)) (d : decode cc pc = .ok (.iload_n i, 1)) (hn : pc + 1 = n) (k : fr_V g w nL F P n ls (.int x :: st) σ) : fr_V g w nL F P pc ls st σ := by
  subst hn
  exact fun t h1 h2 H locs la hP hS hl => lv_iload_n hg.1 hg.2.1 d rfl (lv_at hl j hj) (k t h1 h2 H locs la hP hS hl)
theorem fr_iload (hg : fr_ok g w S cc nL own fr lo) {i : Nat} (j : Nat) {x : Int32} (hj : ls[j]? = some (i, .int x)) (d : decode cc pc = .ok (.iload i, 2)) (hn : pc + 2 = n) (k : fr_V g w nL F P n ls (.int x :: st) σ) : fr_V g w nL F P pc ls st σ := by
  subst hn
  exact fun t h1 h2 H locs la hP hS hl => lv_iload hg.1 hg.2.1 d (lv_at hl j hj) (k t h1 h2 H locs la hP hS hl)
theorem fr_lload_n (hg : fr_ok g w S cc nL own fr lo) {i : Fin 4} (j : Nat) {x : Int64} (hj : ls[j]? = some ((i : Nat), .long x)) (d : decode cc pc = .ok (.lload_n i, 1)) (hn : pc + 1 = n) (k : fr_V g w nL F P n ls (.long x :: st) σ) : fr_V g w nL F P pc ls st σ := by
  subst hn
  exact fun t h1 h2 H locs la hP hS hl => lv_lload_n hg.1 hg.2.1 d rfl (lv_at hl j hj) (k t h1 h2 H locs la hP hS hl)
theorem fr_lload (hg : fr_ok g w S cc nL own fr lo) {i : Nat} (j : Nat) {x : Int64} (hj : ls[j]? = some (i, .long x)) (d : decode cc pc = .ok (.lload i, 2)) (hn : pc + 2 = n) (k : fr_V g w nL F P n ls (.long x :: st) σ) : fr_V g w nL F P pc ls st σ := by
  subst hn
  exact fun t h1 h2 H locs la hP hS hl => lv_lload hg.1 hg.2.1 d (lv_at hl j hj) (k t h1 h2 H locs la hP hS hl)
theorem fr_aload_n (hg : fr_ok g w S cc nL own fr lo) {i : Fin 4} (j : Nat) {x : Nat} (hj : ls[j]? = some ((i : Nat), .ref x)) (d : decode cc pc = .ok (.aload_n i, 1)) (hn : pc + 1 = n) (k : fr_V g w nL F P n ls (.ref x :: st) σ) : fr_V g w nL F P pc ls st σ := by
  subst hn
  exact fun t h1 h2 H locs la hP hS hl => lv_aload_n hg.1 hg.2.1 d rfl (lv_at hl j hj) (k t h1 h2 H locs la hP hS hl)
theorem fr_aload (hg : fr_ok g w S cc nL own fr lo) {i : Nat} (j : Nat) {x : Nat} (hj : ls[j]? = some (i, .ref x)) (d : decode cc pc = .ok (.aload i, 2)) (hn : pc + 2 = n) (k : fr_V g w nL F P n ls (.ref x :: st) σ) : fr_V g w nL F P pc ls st σ := by
  subst hn
  exact fun t h1 h2 H locs la hP hS hl => lv_aload hg.1 hg.2.1 d (lv_at hl j hj) (k t h1 h2 H locs la hP hS hl)
theorem fr_istore_n (hg : fr_ok g w S cc nL own fr lo) {k4 : Fin 4} {i : Nat} {x : Int32} (d : decode cc pc = .ok (.istore_n k4, 1)) (hi : (k4 : Nat) = i) (hb : i < nL) (hn : pc + 1 = n) (hl : fr_ls1 i (.int x) ls = ls') (k : fr_V g w nL F P n ls' st σ) : fr_V g w nL F P pc ls (.int x :: st) σ := by
  subst hn; subst hl
  exact fun t h1 h2 H locs la hP hS hl => lv_istore_n hg.1 hg.2.1 d hi hl hb rfl (fun la' hl' => k t h1 h2 H locs la' hP hS (fr_has hl'))
theorem fr_istore (hg : fr_ok g w S cc nL own fr lo) {i : Nat} {x : Int32} (d : decode cc pc = .ok (.istore i, 2)) (hb : i < nL) (hn : pc + 2 = n) (hl : fr_ls1 i (.int x) ls = ls') (k : fr_V g w nL F P n ls' st σ) : fr_V g w nL F P pc ls (.int x :: st) σ := by
  subst hn; subst hl
  exact fun t h1 h2 H locs la hP hS hl => lv_istore hg.1 hg.2.1 d hl hb rfl (fun la' hl' => k t h1 h2 H locs la' hP hS (fr_has hl'))
theorem fr_lstore_n (hg : fr_ok g w S cc nL own fr lo) {k4 : Fin 4} {i : Nat} {x : Int64} (d : decode cc pc = .ok (.lstore_n k4, 1)) (hi : (k4 : Nat) = i) (hb : i + 1 < nL) (hn : pc + 1 = n) (hl : fr_ls2 i (.long x) ls = ls') (k : fr_V g w nL F P n ls' st σ) : fr_V g w nL F P pc ls (.long x :: st) σ := by
  subst hn; subst hl
  exact fun t h1 h2 H locs la hP hS hl => lv_lstore_n hg.1 hg.2.1 d hi hl hb rfl (fun la' hl' => k t h1 h2 H locs la' hP hS (fr_has hl'))
theorem fr_lstore (hg : fr_ok g w S cc nL own fr lo) {i : Nat} {x : Int64} (d : decode cc pc = .ok (.lstore i, 2)) (hb : i + 1 < nL) (hn : pc + 2 = n) (hl : fr_ls2 i (.long x) ls = ls') (k : fr_V g w nL F P n ls' st σ) : fr_V g w nL F P pc ls (.long x :: st) σ := by
  subst hn; subst hl
  exact fun t h1 h2 H locs la hP hS hl => lv_lstore hg.1 hg.2.1 d hl hb rfl (fun la' hl' => k t h1 h2 H locs la' hP hS (fr_has hl'))
theorem fr_astore_n (hg : fr_ok g w S cc nL own fr lo) {k4 : Fin 4} {i : Nat} {x : Nat} (d : decode cc pc = .ok (.astore_n k4, 1)) (hi : (k4 : Nat) = i) (hb : i < nL) (hn : pc + 1 = n) (hl : fr_ls1 i (.ref x) ls = ls') (k : fr_V g w nL F P n ls' st σ) : fr_V g w nL F P pc ls (.ref x :: st) σ := by
  subst hn; subst hl
  exact fun t h1 h2 H locs la hP hS hl => lv_astore_n hg.1 hg.2.1 d hi hl hb rfl (fun la' hl' => k t h1 h2 H locs la' hP hS (fr_has hl'))
theorem fr_astore (hg : fr_ok g w S cc nL own fr lo) {i : Nat} {x : Nat} (d : decode cc pc = .ok (.astore i, 2)) (hb : i < nL) (hn : pc + 2 = n) (hl : fr_ls1 i (.ref x) ls = ls') (k : fr_V g w nL F P n ls' st σ) : fr_V g w nL F P pc ls (.ref x :: st) σ := by
  subst hn; subst hl
  exact fun t h1 h2 H locs la hP hS hl => lv_astore hg.1 hg.2.1 d hl hb rfl (fun la' hl' => k t h1 h2 H locs la' hP hS (fr_has hl'))
theorem fr_iinc (hg : fr_ok g w S cc nL own fr lo) {i : Nat} {m : Int} (j : Nat) {x v : Int32} (d : decode cc pc = .ok (.iinc i m, 3)) (hj : ls[j]? = some (i, .int x)) (hv : x + Int32.ofInt m = v) (hb : i < nL) (hn : pc + 3 = n) (hl : fr_ls1 i (.int v) ls = ls') (k : fr_V g w nL F P n ls' st σ) : fr_V g w nL F P pc ls st σ := by
  subst hn; subst hl
  exact fun t h1 h2 H locs la hP hS hl => lv_iinc hg.1 hg.2.1 d hl hj hv hb rfl (fun la' hl' => k t h1 h2 H locs la' hP hS (fr_has hl'))
theorem fr_iadd (hg : fr_ok g w S cc nL own fr lo) {x y : Int32} (d : decode cc pc = .ok (.iadd, 1)) (hn : pc + 1 = n) (k : fr_V g w nL F P n ls (.int (x + y) :: st) σ) : fr_V g w nL F P pc ls (.int y :: .int x :: st) σ := by
  subst hn
  exact fun t h1 h2 H locs la hP hS hl => lv_iadd hg.1 hg.2.1 d (k t h1 h2 H locs la hP hS hl)
theorem fr_isub (hg : fr_ok g w S cc nL own fr lo) {x y : Int32} (d : decode cc pc = .ok (.isub, 1)) (hn : pc + 1 = n) (k : fr_V g w nL F P n ls (.int (x - y) :: st) σ) : fr_V g w nL F P pc ls (.int y :: .int x :: st) σ := by
  subst hn
  exact fun t h1 h2 H locs la hP hS hl => lv_isub hg.1 hg.2.1 d (k t h1 h2 H locs la hP hS hl)
theorem fr_imul (hg : fr_ok g w S cc nL own fr lo) {x y : Int32} (d : decode cc pc = .ok (.imul, 1)) (hn : pc + 1 = n) (k : fr_V g w nL F P n ls (.int (x * y) :: st) σ) : fr_V g w nL F P pc ls (.int y :: .int x :: st) σ := by
  subst hn
  exact fun t h1 h2 H locs la hP hS hl => lv_imul hg.1 hg.2.1 d (k t h1 h2 H locs la hP hS hl)
theorem fr_iand (hg : fr_ok g w S cc nL own fr lo) {x y : Int32} (d : decode cc pc = .ok (.iand, 1)) (hn : pc + 1 = n) (k : fr_V g w nL F P n ls (.int (x &&& y) :: st) σ) : fr_V g w nL F P pc ls (.int y :: .int x :: st) σ := by
  subst hn
  exact fun t h1 h2 H locs la hP hS hl => lv_iand hg.1 hg.2.1 d (k t h1 h2 H locs la hP hS hl)
theorem fr_ior (hg : fr_ok g w S cc nL own fr lo) {x y : Int32} (d : decode cc pc = .ok (.ior, 1)) (hn : pc + 1 = n) (k : fr_V g w nL F P n ls (.int (x ||| y) :: st) σ) : fr_V g w nL F P pc ls (.int y :: .int x :: st) σ := by
  subst hn
  exact fun t h1 h2 H locs la hP hS hl => lv_ior hg.1 hg.2.1 d (k t h1 h2 H locs la hP hS hl)
theorem fr_ishl (hg : fr_ok g w S cc nL own fr lo) {x y : Int32} (d : decode cc pc = .ok (.ishl, 1)) (hn : pc + 1 = n) (k : fr_V g w nL F P n ls (.int (x <<< (y &&& 31)) :: st) σ) : fr_V g w nL F P pc ls (.int y :: .int x :: st) σ := by
  subst hn
  exact fun t h1 h2 H locs la hP hS hl => lv_ishl hg.1 hg.2.1 d (k t h1 h2 H locs la hP hS hl)
theorem fr_ishr (hg : fr_ok g w S cc nL own fr lo) {x y : Int32} (d : decode cc pc = .ok (.ishr, 1)) (hn : pc + 1 = n) (k : fr_V g w nL F P n ls (.int (x >>> (y &&& 31)) :: st) σ) : fr_V g w nL F P pc ls (.int y :: .int x :: st) σ := by
  subst hn
  exact fun t h1 h2 H locs la hP hS hl => lv_ishr hg.1 hg.2.1 d (k t h1 h2 H locs la hP hS hl)
theorem fr_ladd (hg : fr_ok g w S cc nL own fr lo) {x y : Int64} (d : decode cc pc = .ok (.ladd, 1)) (hn : pc + 1 = n) (k : fr_V g w nL F P n ls (.long (x + y) :: st) σ) : fr_V g w nL F P pc ls (.long y :: .long x :: st) σ := by
  subst hn
  exact fun t h1 h2 H locs la hP hS hl => lv_ladd hg.1 hg.2.1 d (k t h1 h2 H locs la hP hS hl)
theorem fr_lsub (hg : fr_ok g w S cc nL own fr lo) {x y : Int64} (d : decode cc pc = .ok (.lsub, 1)) (hn : pc + 1 = n) (k : fr_V g w nL F P n ls (.long (x - y) :: st) σ) : fr_V g w nL F P pc ls (.long y :: .long x :: st) σ := by
  subst hn
  exact fun t h1 h2 H locs la hP hS hl => lv_lsub hg.1 hg.2.1 d (k t h1 h2 H locs la hP hS hl)
theorem fr_lmul (hg : fr_ok g w S cc nL own fr lo) {x y : Int64} (d : decode cc pc = .ok (.lmul, 1)) (hn : pc + 1 = n) (k : fr_V g w nL F P n ls (.long (x * y) :: st) σ) : fr_V g w nL F P pc ls (.long y :: .long x :: st) σ := by
  subst hn
  exact fun t h1 h2 H locs la hP hS hl => lv_lmul hg.1 hg.2.1 d (k t h1 h2 H locs la hP hS hl)
theorem fr_idiv0 (hg : fr_ok g w S cc nL own fr lo) {x y : Int32} (hne : ¬ y = 0) (d : decode cc pc = .ok (.idiv, 1)) (hn : pc + 1 = n) (k : fr_V g w nL F P n ls (.int (x / y) :: st) σ) : fr_V g w nL F P pc ls (.int y :: .int x :: st) σ := by
  subst hn
  exact fun t h1 h2 H locs la hP hS hl => lv_idiv hg.1 hg.2.1 d hne (k t h1 h2 H locs la hP hS hl)
theorem fr_irem0 (hg : fr_ok g w S cc nL own fr lo) {x y : Int32} (hne : ¬ y = 0) (d : decode cc pc = .ok (.irem, 1)) (hn : pc + 1 = n) (k : fr_V g w nL F P n ls (.int (x - x / y * y) :: st) σ) : fr_V g w nL F P pc ls (.int y :: .int x :: st) σ := by
  subst hn
  exact fun t h1 h2 H locs la hP hS hl => lv_irem hg.1 hg.2.1 d hne (k t h1 h2 H locs la hP hS hl)
theorem fr_ldiv0 (hg : fr_ok g w S cc nL own fr lo) {x y : Int64} (hne : ¬ y = 0) (d : decode cc pc = .ok (.ldiv, 1)) (hn : pc + 1 = n) (k : fr_V g w nL F P n ls (.long (x / y) :: st) σ) : fr_V g w nL F P pc ls (.long y :: .long x :: st) σ := by
  subst hn
  exact fun t h1 h2 H locs la hP hS hl => lv_ldiv hg.1 hg.2.1 d hne (k t h1 h2 H locs la hP hS hl)
theorem fr_lrem0 (hg : fr_ok g w S cc nL own fr lo) {x y : Int64} (hne : ¬ y = 0) (d : decode cc pc = .ok (.lrem, 1)) (hn : pc + 1 = n) (k : fr_V g w nL F P n ls (.long (x - x / y * y) :: st) σ) : fr_V g w nL F P pc ls (.long y :: .long x :: st) σ := by
  subst hn
  exact fun t h1 h2 H locs la hP hS hl => lv_lrem hg.1 hg.2.1 d hne (k t h1 h2 H locs la hP hS hl)
theorem fr_idiv (hg : fr_ok g w S cc nL own fr lo) {x y : Int32} {G : Int32 → Option τ} (d : decode cc pc = .ok (.idiv, 1)) (hn : pc + 1 = n) (k : ∀ r, fr_V g w nL (G r) P n ls (.int r :: st) σ) : fr_V g w nL ((fr_dv x y).bind G) P pc ls (.int y :: .int x :: st) σ := by
  subst hn
  intro t h1 h2 H locs la hP hS hl
  by_cases hy : y = 0
  · simp [fr_dv, hy] at h1
  · refine lv_idiv hg.1 hg.2.1 d hy (k _ t ?_ h2 H locs la hP hS hl)
    simpa [fr_dv, hy] using h1
theorem fr_irem (hg : fr_ok g w S cc nL own fr lo) {x y : Int32} {G : Int32 → Option τ} (d : decode cc pc = .ok (.irem, 1)) (hn : pc + 1 = n) (k : ∀ r, fr_V g w nL (G r) P n ls (.int r :: st) σ) : fr_V g w nL ((fr_rm x y).bind G) P pc ls (.int y :: .int x :: st) σ := by
  subst hn
  intro t h1 h2 H locs la hP hS hl
  by_cases hy : y = 0
  · simp [fr_rm, hy] at h1
  · refine lv_irem hg.1 hg.2.1 d hy (k _ t ?_ h2 H locs la hP hS hl)
    simpa [fr_rm, hy] using h1
theorem fr_ldiv (hg : fr_ok g w S cc nL own fr lo) {x y : Int64} {G : Int64 → Option τ} (d : decode cc pc = .ok (.ldiv, 1)) (hn : pc + 1 = n) (k : ∀ r, fr_V g w nL (G r) P n ls (.long r :: st) σ) : fr_V g w nL ((fr_ldv x y).bind G) P pc ls (.long y :: .long x :: st) σ := by
  subst hn
  intro t h1 h2 H locs la hP hS hl
  by_cases hy : y = 0
  · simp [fr_ldv, hy] at h1
  · refine lv_ldiv hg.1 hg.2.1 d hy (k _ t ?_ h2 H locs la hP hS hl)
    simpa [fr_ldv, hy] using h1
theorem fr_lrem (hg : fr_ok g w S cc nL own fr lo) {x y : Int64} {G : Int64 → Option τ} (d : decode cc pc = .ok (.lrem, 1)) (hn : pc + 1 = n) (k : ∀ r, fr_V g w nL (G r) P n ls (.long r :: st) σ) : fr_V g w nL ((fr_lrm x y).bind G) P pc ls (.long y :: .long x :: st) σ := by
  subst hn
  intro t h1 h2 H locs la hP hS hl
  by_cases hy : y = 0
  · simp [fr_lrm, hy] at h1
  · refine lv_lrem hg.1 hg.2.1 d hy (k _ t ?_ h2 H locs la hP hS hl)
    simpa [fr_lrm, hy] using h1
theorem fr_i2l (hg : fr_ok g w S cc nL own fr lo) {x : Int32} (d : decode cc pc = .ok (.i2l, 1)) (hn : pc + 1 = n) (k : fr_V g w nL F P n ls (.long x.toInt64 :: st) σ) : fr_V g w nL F P pc ls (.int x :: st) σ := by
  subst hn
  exact fun t h1 h2 H locs la hP hS hl => lv_i2l hg.1 hg.2.1 d rfl (k t h1 h2 H locs la hP hS hl)
theorem fr_i2b (hg : fr_ok g w S cc nL own fr lo) {x : Int32} (d : decode cc pc = .ok (.i2b, 1)) (hn : pc + 1 = n) (k : fr_V g w nL F P n ls (.int x.toInt8.toInt32 :: st) σ) : fr_V g w nL F P pc ls (.int x :: st) σ := by
  subst hn
  exact fun t h1 h2 H locs la hP hS hl => lv_i2b hg.1 hg.2.1 d rfl (k t h1 h2 H locs la hP hS hl)
theorem fr_i2s (hg : fr_ok g w S cc nL own fr lo) {x : Int32} (d : decode cc pc = .ok (.i2s, 1)) (hn : pc + 1 = n) (k : fr_V g w nL F P n ls (.int x.toInt16.toInt32 :: st) σ) : fr_V g w nL F P pc ls (.int x :: st) σ := by
  subst hn
  exact fun t h1 h2 H locs la hP hS hl => lv_i2s hg.1 hg.2.1 d rfl (k t h1 h2 H locs la hP hS hl)
theorem fr_lcmp (hg : fr_ok g w S cc nL own fr lo) {x y : Int64} (d : decode cc pc = .ok (.lcmp, 1)) (hn : pc + 1 = n) (k : fr_V g w nL F P n ls (.int (lg_cmp x y) :: st) σ) : fr_V g w nL F P pc ls (.long y :: .long x :: st) σ := by
  subst hn
  exact fun t h1 h2 H locs la hP hS hl => W.lcmp hg.1 hg.2.1 d (k t h1 h2 H locs la hP hS hl)
theorem fr_dup (hg : fr_ok g w S cc nL own fr lo) {v : Value} (hv : v.category = 1) (d : decode cc pc = .ok (.dup, 1)) (hn : pc + 1 = n) (k : fr_V g w nL F P n ls (v :: v :: st) σ) : fr_V g w nL F P pc ls (v :: st) σ := by
  subst hn
  exact fun t h1 h2 H locs la hP hS hl => lv_dup hg.1 hg.2.1 d hv (k t h1 h2 H locs la hP hS hl)
theorem fr_pop (hg : fr_ok g w S cc nL own fr lo) {v : Value} (hv : v.category = 1) (d : decode cc pc = .ok (.pop, 1)) (hn : pc + 1 = n) (k : fr_V g w nL F P n ls st σ) : fr_V g w nL F P pc ls (v :: st) σ := by
  subst hn
  exact fun t h1 h2 H locs la hP hS hl => lv_pop hg.1 hg.2.1 d hv (k t h1 h2 H locs la hP hS hl)
theorem fr_dup2 (hg : fr_ok g w S cc nL own fr lo) {v u : Value} (hv : v.category = 1) (hu : u.category = 1) (d : decode cc pc = .ok (.dup2, 1)) (hn : pc + 1 = n) (k : fr_V g w nL F P n ls (v :: u :: v :: u :: st) σ) : fr_V g w nL F P pc ls (v :: u :: st) σ := by
  subst hn
  exact fun t h1 h2 H locs la hP hS hl => lv_dup2_11 hg.1 hg.2.1 d hv hu (k t h1 h2 H locs la hP hS hl)
theorem fr_goto (hg : fr_ok g w S cc nL own fr lo) {off : Int} (d : decode cc pc = .ok (.goto off, 3)) (hn : (pc : Int) + off = (n : Int)) (k : fr_V g w nL F P n ls st σ) : fr_V g w nL F P pc ls st σ :=
  fun t h1 h2 H locs la hP hS hl => lv_goto hg.1 hg.2.1 d hn (k t h1 h2 H locs la hP hS hl)
theorem fr_if_eq (hg : fr_ok g w S cc nL own fr lo) {x : Int32} {off : Int} {m : Nat} (d : decode cc pc = .ok (.ifCond .eq off, 3)) (ht : (pc : Int) + off = (m : Int)) (hn : pc + 3 = n) (kt : fr_V g w nL F1 P m ls st σ) (kf : fr_V g w nL F2 P n ls st σ) : fr_V g w nL (if x = 0 then F1 else F2) P pc ls (.int x :: st) σ := by
  subst hn
  intro t h1 h2 H locs la hP hS hl
  exact lv_if_eq hg.1 hg.2.1 d ht (fun c => kt t (by rw [if_pos c] at h1; exact h1) h2 H locs la hP hS hl) (fun c => kf t (by rw [if_neg c] at h1; exact h1) h2 H locs la hP hS hl)
theorem fr_icmp_eq (hg : fr_ok g w S cc nL own fr lo) {x y : Int32} {off : Int} {m : Nat} (d : decode cc pc = .ok (.if_icmp .eq off, 3)) (ht : (pc : Int) + off = (m : Int)) (hn : pc + 3 = n) (kt : fr_V g w nL F1 P m ls st σ) (kf : fr_V g w nL F2 P n ls st σ) : fr_V g w nL (if x = y then F1 else F2) P pc ls (.int y :: .int x :: st) σ := by
  subst hn
  intro t h1 h2 H locs la hP hS hl
  exact lv_icmp_eq hg.1 hg.2.1 d ht (fun c => kt t (by rw [if_pos c] at h1; exact h1) h2 H locs la hP hS hl) (fun c => kf t (by rw [if_neg c] at h1; exact h1) h2 H locs la hP hS hl)
theorem fr_if_ne (hg : fr_ok g w S cc nL own fr lo) {x : Int32} {off : Int} {m : Nat} (d : decode cc pc = .ok (.ifCond .ne off, 3)) (ht : (pc : Int) + off = (m : Int)) (hn : pc + 3 = n) (kt : fr_V g w nL F2 P m ls st σ) (kf : fr_V g w nL F1 P n ls st σ) : fr_V g w nL (if x = 0 then F1 else F2) P pc ls (.int x :: st) σ := by
  subst hn
  intro t h1 h2 H locs la hP hS hl
  exact lv_if_ne hg.1 hg.2.1 d ht (fun c => kt t (by rw [if_neg c] at h1; exact h1) h2 H locs la hP hS hl) (fun c => kf t (by rw [if_pos c] at h1; exact h1) h2 H locs la hP hS hl)
theorem fr_icmp_ne (hg : fr_ok g w S cc nL own fr lo) {x y : Int32} {off : Int} {m : Nat} (d : decode cc pc = .ok (.if_icmp .ne off, 3)) (ht : (pc : Int) + off = (m : Int)) (hn : pc + 3 = n) (kt : fr_V g w nL F2 P m ls st σ) (kf : fr_V g w nL F1 P n ls st σ) : fr_V g w nL (if x = y then F1 else F2) P pc ls (.int y :: .int x :: st) σ := by
  subst hn
  intro t h1 h2 H locs la hP hS hl
  exact lv_icmp_ne hg.1 hg.2.1 d ht (fun c => kt t (by rw [if_neg c] at h1; exact h1) h2 H locs la hP hS hl) (fun c => kf t (by rw [if_pos c] at h1; exact h1) h2 H locs la hP hS hl)
theorem fr_if_lt (hg : fr_ok g w S cc nL own fr lo) {x : Int32} {off : Int} {m : Nat} (d : decode cc pc = .ok (.ifCond .lt off, 3)) (ht : (pc : Int) + off = (m : Int)) (hn : pc + 3 = n) (kt : fr_V g w nL F1 P m ls st σ) (kf : fr_V g w nL F2 P n ls st σ) : fr_V g w nL (if x < 0 then F1 else F2) P pc ls (.int x :: st) σ := by
  subst hn
  intro t h1 h2 H locs la hP hS hl
  exact lv_if_lt hg.1 hg.2.1 d ht (fun c => kt t (by rw [if_pos c] at h1; exact h1) h2 H locs la hP hS hl) (fun c => kf t (by rw [if_neg c] at h1; exact h1) h2 H locs la hP hS hl)
theorem fr_icmp_lt (hg : fr_ok g w S cc nL own fr lo) {x y : Int32} {off : Int} {m : Nat} (d : decode cc pc = .ok (.if_icmp .lt off, 3)) (ht : (pc : Int) + off = (m : Int)) (hn : pc + 3 = n) (kt : fr_V g w nL F1 P m ls st σ) (kf : fr_V g w nL F2 P n ls st σ) : fr_V g w nL (if x < y then F1 else F2) P pc ls (.int y :: .int x :: st) σ := by
  subst hn
  intro t h1 h2 H locs la hP hS hl
  exact lv_icmp_lt hg.1 hg.2.1 d ht (fun c => kt t (by rw [if_pos c] at h1; exact h1) h2 H locs la hP hS hl) (fun c => kf t (by rw [if_neg c] at h1; exact h1) h2 H locs la hP hS hl)
theorem fr_if_ge (hg : fr_ok g w S cc nL own fr lo) {x : Int32} {off : Int} {m : Nat} (d : decode cc pc = .ok (.ifCond .ge off, 3)) (ht : (pc : Int) + off = (m : Int)) (hn : pc + 3 = n) (kt : fr_V g w nL F1 P m ls st σ) (kf : fr_V g w nL F2 P n ls st σ) : fr_V g w nL (if 0 ≤ x then F1 else F2) P pc ls (.int x :: st) σ := by
  subst hn
  intro t h1 h2 H locs la hP hS hl
  exact lv_if_ge hg.1 hg.2.1 d ht (fun c => kt t (by rw [if_pos c] at h1; exact h1) h2 H locs la hP hS hl) (fun c => kf t (by rw [if_neg c] at h1; exact h1) h2 H locs la hP hS hl)
theorem fr_icmp_ge (hg : fr_ok g w S cc nL own fr lo) {x y : Int32} {off : Int} {m : Nat} (d : decode cc pc = .ok (.if_icmp .ge off, 3)) (ht : (pc : Int) + off = (m : Int)) (hn : pc + 3 = n) (kt : fr_V g w nL F1 P m ls st σ) (kf : fr_V g w nL F2 P n ls st σ) : fr_V g w nL (if y ≤ x then F1 else F2) P pc ls (.int y :: .int x :: st) σ := by
  subst hn
  intro t h1 h2 H locs la hP hS hl
  exact lv_icmp_ge hg.1 hg.2.1 d ht (fun c => kt t (by rw [if_pos c] at h1; exact h1) h2 H locs la hP hS hl) (fun c => kf t (by rw [if_neg c] at h1; exact h1) h2 H locs la hP hS hl)
theorem fr_if_gt (hg : fr_ok g w S cc nL own fr lo) {x : Int32} {off : Int} {m : Nat} (d : decode cc pc = .ok (.ifCond .gt off, 3)) (ht : (pc : Int) + off = (m : Int)) (hn : pc + 3 = n) (kt : fr_V g w nL F1 P m ls st σ) (kf : fr_V g w nL F2 P n ls st σ) : fr_V g w nL (if 0 < x then F1 else F2) P pc ls (.int x :: st) σ := by
  subst hn
  intro t h1 h2 H locs la hP hS hl
  exact lv_if_gt hg.1 hg.2.1 d ht (fun c => kt t (by rw [if_pos c] at h1; exact h1) h2 H locs la hP hS hl) (fun c => kf t (by rw [if_neg c] at h1; exact h1) h2 H locs la hP hS hl)
theorem fr_icmp_gt (hg : fr_ok g w S cc nL own fr lo) {x y : Int32} {off : Int} {m : Nat} (d : decode cc pc = .ok (.if_icmp .gt off, 3)) (ht : (pc : Int) + off = (m : Int)) (hn : pc + 3 = n) (kt : fr_V g w nL F1 P m ls st σ) (kf : fr_V g w nL F2 P n ls st σ) : fr_V g w nL (if y < x then F1 else F2) P pc ls (.int y :: .int x :: st) σ := by
  subst hn
  intro t h1 h2 H locs la hP hS hl
  exact lv_icmp_gt hg.1 hg.2.1 d ht (fun c => kt t (by rw [if_pos c] at h1; exact h1) h2 H locs la hP hS hl) (fun c => kf t (by rw [if_neg c] at h1; exact h1) h2 H locs la hP hS hl)
theorem fr_if_le (hg : fr_ok g w S cc nL own fr lo) {x : Int32} {off : Int} {m : Nat} (d : decode cc pc = .ok (.ifCond .le off, 3)) (ht : (pc : Int) + off = (m : Int)) (hn : pc + 3 = n) (kt : fr_V g w nL F1 P m ls st σ) (kf : fr_V g w nL F2 P n ls st σ) : fr_V g w nL (if x ≤ 0 then F1 else F2) P pc ls (.int x :: st) σ := by
  subst hn
  intro t h1 h2 H locs la hP hS hl
  exact lv_if_le hg.1 hg.2.1 d ht (fun c => kt t (by rw [if_pos c] at h1; exact h1) h2 H locs la hP hS hl) (fun c => kf t (by rw [if_neg c] at h1; exact h1) h2 H locs la hP hS hl)
theorem fr_icmp_le (hg : fr_ok g w S cc nL own fr lo) {x y : Int32} {off : Int} {m : Nat} (d : decode cc pc = .ok (.if_icmp .le off, 3)) (ht : (pc : Int) + off = (m : Int)) (hn : pc + 3 = n) (kt : fr_V g w nL F1 P m ls st σ) (kf : fr_V g w nL F2 P n ls st σ) : fr_V g w nL (if x ≤ y then F1 else F2) P pc ls (.int y :: .int x :: st) σ := by
  subst hn
  intro t h1 h2 H locs la hP hS hl
  exact lv_icmp_le hg.1 hg.2.1 d ht (fun c => kt t (by rw [if_pos c] at h1; exact h1) h2 H locs la hP hS hl) (fun c => kf t (by rw [if_neg c] at h1; exact h1) h2 H locs la hP hS hl)
theorem fr_some_ite {c : Prop} [Decidable c] {x y : τ} (k : fr_V g w nL (if c then some x else some y) P pc ls st σ) : fr_V g w nL (some (if c then x else y)) P pc ls st σ := by
  intro t h1 h2
  refine k t ?_ h2
  by_cases hc : c
  · rw [if_pos hc] at h1 ⊢; exact h1
  · rw [if_neg hc] at h1 ⊢; exact h1
theorem fr_eq {F' : Option τ} (h : F = F') (k : fr_V g w nL F' P pc ls st σ) : fr_V g w nL F P pc ls st σ := h ▸ k
theorem fr_none : fr_V g w nL none P pc ls st σ := fun t h => by cases h
theorem fr_case {c : Prop} [Decidable c] (kt : c → fr_V g w nL F1 P pc ls st σ) (kf : ¬ c → fr_V g w nL F2 P pc ls st σ) : fr_V g w nL (if c then F1 else F2) P pc ls st σ := by
  intro t h1 h2
  by_cases hc : c
  · exact kt hc t (by rw [if_pos hc] at h1; exact h1) h2
  · exact kf hc t (by rw [if_neg hc] at h1; exact h1) h2
theorem fr_K_sub {ks : List Nat} (hl : lv_pick ls ks = ls') (k : fr_K g w nL pc ls' st σ) : fr_K g w nL pc ls st σ := fun H locs la hP hS h => k H locs la hP hS (lv_sub h ks hl)
/-- a leaf: the program has come where its value says -/
theorem fr_leaf {t : τ} (ks : List Nat) (hl : lv_pick ls ks = ls') (hp : P t → fr_K g w nL pc ls' st σ) : fr_V g w nL (some t) P pc ls st σ := by
  intro t' h1 h2
  cases h1
  exact fr_K_sub hl (hp h2)
theorem fr_join {τ' : Type} {F1 : Option τ'} {F2 : τ' → Option τ} {m : Nat} {lj : τ' → List (Nat × Value)} {sj : τ' → List Value} {wj : τ' → fr_St} (k1 : fr_V g w nL F1 (fun t => fr_K g w nL m (lj t) (sj t) (wj t)) pc ls st σ) (k2 : ∀ t, fr_V g w nL (F2 t) P m (lj t) (sj t) (wj t)) : fr_V g w nL (F1.bind F2) P pc ls st σ := by
  intro t h1 h2
  cases hF : F1 with
  | none => rw [hF] at h1; cases h1
  | some a => rw [hF] at h1; exact k1 a hF (k2 a t h1 h2)
theorem fr_loop_ok {β γ : Type} {body : β → Option (β ⊕ γ)} {lb : β → List (Nat × Value)} {wb : β → fr_St} {G : γ → Prop} {h : Nat}
    (kb : ∀ b, fr_V g w nL (body b) (fun x => match x with | .inl b' => fr_K g w nL h (lb b') [] (wb b') | .inr c => G c) h (lb b) [] (wb b)) : ∀ (N : Nat) (b : β) (c : γ), fr_loop body N b = some c → G c → fr_K g w nL h (lb b) [] (wb b) := by
  intro N
  induction N with
  | zero => intro b c h; simp [fr_loop] at h
  | succ N ih =>
    intro b c hl hG
    unfold fr_loop at hl
    cases hb : body b with
    | none => rw [hb] at hl; cases hl
    | some x =>
      rw [hb] at hl
      cases x with
      | inl b' => exact kb b _ hb (ih b' c hl hG)
      | inr c' =>
        have : c' = c := by simpa using hl
        subst this
        exact kb b _ hb hG
/-- a loop, and what follows it -/
theorem fr_lp {β γ : Type} {body : β → Option (β ⊕ γ)} {N : Nat} {b0 : β} {G : γ → Option τ} (lb : β → List (Nat × Value)) (wb : β → fr_St) (x : Nat) (lx : γ → List (Nat × Value)) (wx : γ → fr_St) (ks : List Nat) (hl : lv_pick ls ks = lb b0) (hw : wb b0 = σ)
    (kb : ∀ b, fr_V g w nL (body b) (fun y => match y with | .inl b' => fr_K g w nL pc (lb b') [] (wb b') | .inr c => fr_K g w nL x (lx c) [] (wx c)) pc (lb b) [] (wb b))
    (kx : ∀ c, fr_V g w nL (G c) P x (lx c) [] (wx c)) : fr_V g w nL ((fr_loop body N b0).bind G) P pc ls [] σ := by
  intro t h1 h2
  cases hF : fr_loop body N b0 with
  | none => rw [hF] at h1; cases h1
  | some c =>
    rw [hF] at h1
    subst hw
    exact fr_K_sub hl (fr_loop_ok (G := fun c => fr_K g w nL x (lx c) [] (wx c)) kb N b0 c hF (kx c t h1 h2))
/-- a loop out of which one may return -/
theorem fr_lpr {β γ ρ : Type} {body : β → Option (β ⊕ (ρ ⊕ γ))} {N : Nat} {b0 : β} {G1 : ρ → Option τ} {G2 : γ → Option τ} (lb : β → List (Nat × Value)) (wb : β → fr_St) (x : Nat) (lx : γ → List (Nat × Value)) (wx : γ → fr_St) (ks : List Nat) (hl : lv_pick ls ks = lb b0) (hw : wb b0 = σ) (RP : ρ → Prop)
    (hr : ∀ r t, G1 r = some t → P t → RP r)
    (kb : ∀ b, fr_V g w nL (body b) (fun y => match y with | .inl b' => fr_K g w nL pc (lb b') [] (wb b') | .inr (.inl r) => RP r | .inr (.inr c) => fr_K g w nL x (lx c) [] (wx c)) pc (lb b) [] (wb b))
    (kx : ∀ c, fr_V g w nL (G2 c) P x (lx c) [] (wx c)) : fr_V g w nL ((fr_loop body N b0).bind (fr_ei G1 G2)) P pc ls [] σ := by
  intro t h1 h2
  cases hF : fr_loop body N b0 with
  | none => rw [hF] at h1; cases h1
  | some c =>
    rw [hF] at h1
    subst hw
    refine fr_K_sub hl (fr_loop_ok (G := fun y => match y with | .inl r => RP r | .inr c => fr_K g w nL x (lx c) [] (wx c)) (fun b s hb hs => kb b s hb ?_) N b0 c hF ?_)
    · match s, hs with
      | .inl b', hs => exact hs
      | .inr (.inl r), hs => exact hs
      | .inr (.inr c), hs => exact hs
    · match c, h1 with
      | .inl r, h1 => exact hr r t h1 h2
      | .inr c, h1 => exact kx c t h1 h2
end FRV
