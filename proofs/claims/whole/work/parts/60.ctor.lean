/-! constructors: a world that grows; cells by their place, refs by place (some 0: null, some (q + 1): the cell q) -/
abbrev fc_Ce : Type := fr_Sh × (Nat → Int32)
def fc_fl (ad : Nat → Nat) (f : Nat → Int32) : Nat → List (Option Nat) → List Value
  | _, [] => []
  | j, none :: r => .int (f j) :: fc_fl ad f (j + 1) r
  | j, some 0 :: r => .null :: fc_fl ad f (j + 1) r
  | j, some (q + 1) :: r => .ref (ad q) :: fc_fl ad f (j + 1) r
def fc_rf (ad : Nat → Nat) : Option Nat → Option Nat
  | some (q + 1) => some (ad q)
  | _ => none
def fc_ce (cs : Nat → ClassId) (ad : Nat → Nat) (x : fc_Ce) : va_E := match x with
  | ((0, n, _), f) => .inl (cs 0, n, .inl f)
  | ((1, n, _), f) => .inl (cs 1, n, .inl f)
  | ((2, n, l), _) => .inl (cs 2, n, .inr (.inr (.inr (.inr (fun j => fc_rf ad (l.getD j none))))))
  | ((_, c, l), f) => .inr (c, fc_fl ad f 0 l)
def fc_wl (cs : Nat → ClassId) (ad : Nat → Nat) : Nat → List fc_Ce → va_W
  | _, [] => []
  | q, x :: r => (ad q, fc_ce cs ad x) :: fc_wl cs ad (q + 1) r
def fc_eq (cs : Nat → ClassId) (m : Nat) (f : Nat → Option Nat) : va_E := .inl (cs 2, m, .inr (.inr (.inr (.inr f))))
theorem fc_wl_len {cs : Nat → ClassId} {ad : Nat → Nat} : ∀ (L : List fc_Ce) (q : Nat), (fc_wl cs ad q L).length = L.length
  | [], _ => rfl
  | x :: r, q => by show (fc_wl cs ad (q + 1) r).length + 1 = r.length + 1; rw [fc_wl_len r]
theorem fc_wl_app {cs : Nat → ClassId} {ad : Nat → Nat} : ∀ (L M : List fc_Ce) (q : Nat), fc_wl cs ad q (L ++ M) = fc_wl cs ad q L ++ fc_wl cs ad (q + L.length) M
  | [], M, q => by simp [fc_wl]
  | x :: r, M, q => by
    show (ad q, fc_ce cs ad x) :: fc_wl cs ad (q + 1) (r ++ M) = (ad q, fc_ce cs ad x) :: (fc_wl cs ad (q + 1) r ++ fc_wl cs ad (q + (r.length + 1)) M)
    rw [fc_wl_app r M (q + 1), show q + 1 + r.length = q + (r.length + 1) by omega]
theorem fc_wl_get {cs : Nat → ClassId} {ad : Nat → Nat} {x : fc_Ce} : ∀ (L : List fc_Ce) (q k : Nat), L[k]? = some x → (fc_wl cs ad q L)[k]? = some (ad (q + k), fc_ce cs ad x)
  | [], _, _, h => by simp at h
  | y :: r, q, 0, h => by
    have : y = x := by simpa using h
    subst this; rfl
  | y :: r, q, k + 1, h => by
    show (fc_wl cs ad (q + 1) r)[k]? = _
    rw [fc_wl_get r (q + 1) k (by simpa using h), show q + 1 + k = q + (k + 1) by omega]
theorem fc_wl_set {cs : Nat → ClassId} {ad : Nat → Nat} {x : fc_Ce} : ∀ (L : List fc_Ce) (q k : Nat), (fc_wl cs ad q L).set k (ad (q + k), fc_ce cs ad x) = fc_wl cs ad q (L.set k x)
  | [], _, _ => rfl
  | y :: r, q, 0 => rfl
  | y :: r, q, k + 1 => by
    show (ad q, fc_ce cs ad y) :: (fc_wl cs ad (q + 1) r).set k (ad (q + (k + 1)), fc_ce cs ad x) = (ad q, fc_ce cs ad y) :: fc_wl cs ad (q + 1) (r.set k x)
    rw [show q + (k + 1) = q + 1 + k by omega, fc_wl_set r (q + 1) k]
theorem fc_get0 {cs : Nat → ClassId} {ad : Nat → Nat} {x : fc_Ce} {L : List fc_Ce} {k : Nat} (h : L[k]? = some x) : (fc_wl cs ad 0 L)[k]? = some (ad k, fc_ce cs ad x) := by
  have e := fc_wl_get (cs := cs) (ad := ad) L 0 k h
  rw [Nat.zero_add] at e
  exact e
theorem fc_set0 {cs : Nat → ClassId} {ad : Nat → Nat} {x : fc_Ce} {L : List fc_Ce} {k : Nat} : (fc_wl cs ad 0 L).set k (ad k, fc_ce cs ad x) = fc_wl cs ad 0 (L.set k x) := by
  have e := fc_wl_set (cs := cs) (ad := ad) (x := x) L 0 k
  rw [Nat.zero_add] at e
  exact e
def fc_wo (n : Nat) : Option Nat → Bool
  | some (q + 1) => Nat.blt q n
  | _ => true
def fc_wx (n : Nat) (x : fc_Ce) : Bool := x.1.2.2.all (fc_wo n)
theorem fc_fl_ad {ad ad' : Nat → Nat} {f : Nat → Int32} {n : Nat} (h : ∀ k, k < n → ad k = ad' k) : ∀ (l : List (Option Nat)) (j : Nat), l.all (fc_wo n) = true → fc_fl ad f j l = fc_fl ad' f j l
  | [], _, _ => rfl
  | none :: r, j, hw => by
    show Value.int (f j) :: fc_fl ad f (j + 1) r = Value.int (f j) :: fc_fl ad' f (j + 1) r
    rw [fc_fl_ad h r (j + 1) (by simpa [fc_wo] using hw)]
  | some 0 :: r, j, hw => by
    show Value.null :: fc_fl ad f (j + 1) r = Value.null :: fc_fl ad' f (j + 1) r
    rw [fc_fl_ad h r (j + 1) (by simpa [fc_wo] using hw)]
  | some (q + 1) :: r, j, hw => by
    show Value.ref (ad q) :: fc_fl ad f (j + 1) r = Value.ref (ad' q) :: fc_fl ad' f (j + 1) r
    simp only [List.all_cons, Bool.and_eq_true] at hw
    rw [fc_fl_ad h r (j + 1) hw.2, h q (by simpa [fc_wo, Nat.blt_eq] using hw.1)]
theorem fc_rf_ad {ad ad' : Nat → Nat} {n : Nat} (h : ∀ k, k < n → ad k = ad' k) {l : List (Option Nat)} (hw : l.all (fc_wo n) = true) (j : Nat) : fc_rf ad (l.getD j none) = fc_rf ad' (l.getD j none) := by
  cases hj : l[j]? with
  | none => simp [List.getD, hj, fc_rf]
  | some o =>
    have ho := List.all_eq_true.mp hw o (List.mem_of_getElem? hj)
    simp only [List.getD, hj, Option.getD_some]
    match o, ho with
    | none, _ => rfl
    | some 0, _ => rfl
    | some (q + 1), ho => show some (ad q) = some (ad' q); rw [h q (by simpa [fc_wo, Nat.blt_eq] using ho)]
theorem fc_ce_ad {cs : Nat → ClassId} {ad ad' : Nat → Nat} {n : Nat} (h : ∀ k, k < n → ad k = ad' k) (x : fc_Ce) (hw : fc_wx n x = true) : fc_ce cs ad x = fc_ce cs ad' x := by
  obtain ⟨⟨t, m, l⟩, f⟩ := x
  have hw : l.all (fc_wo n) = true := hw
  match t with
  | 0 => rfl
  | 1 => rfl
  | 2 =>
    show fc_eq cs m (fun j => fc_rf ad (l.getD j none)) = fc_eq cs m (fun j => fc_rf ad' (l.getD j none))
    congr 1
    funext j
    exact fc_rf_ad h hw j
  | t + 3 =>
    show (Sum.inr (m, fc_fl ad f 0 l) : va_E) = Sum.inr (m, fc_fl ad' f 0 l)
    rw [fc_fl_ad h l 0 hw]
theorem fc_wl_ad {cs : Nat → ClassId} {ad ad' : Nat → Nat} {n : Nat} (h : ∀ k, k < n → ad k = ad' k) : ∀ (L : List fc_Ce) (q : Nat), L.all (fc_wx n) = true → q + L.length ≤ n → fc_wl cs ad q L = fc_wl cs ad' q L
  | [], _, _, _ => rfl
  | x :: r, q, hw, hq => by
    simp only [List.all_cons, Bool.and_eq_true] at hw
    simp only [List.length_cons] at hq
    show (ad q, fc_ce cs ad x) :: fc_wl cs ad (q + 1) r = (ad' q, fc_ce cs ad' x) :: fc_wl cs ad' (q + 1) r
    rw [fc_wl_ad h r (q + 1) hw.2 (by omega), fc_ce_ad h x hw.1, h q (by omega)]
/-- one cell more -/
theorem fc_grow {cs : Nat → ClassId} {ad : Nat → Nat} {L : List fc_Ce} {x : fc_Ce} {q : Nat} (hL : L.all (fc_wx L.length) = true) (hx : fc_wx L.length x = true) : fc_wl cs ad 0 L ++ [(q, fc_ce cs ad x)] = fc_wl cs (va_up ad L.length q) 0 (L ++ [x]) := by
  have h : ∀ k, k < L.length → ad k = va_up ad L.length q k := fun k hk => (va_up_ne ad q (by omega)).symm
  rw [fc_wl_app, fc_wl_ad h L 0 hL (by omega), fc_ce_ad h x hx, Nat.zero_add]
  show _ ++ [(q, _)] = _ ++ [(va_up ad L.length q L.length, _)]
  rw [va_up_self]
def fc_so (k : Nat) : Option Nat → Option Nat
  | some (q + 1) => some (q + k + 1)
  | o => o
def fc_sx (k : Nat) (x : fc_Ce) : fc_Ce := ((x.1.1, x.1.2.1, x.1.2.2.map (fc_so k)), x.2)
def fc_mix (ad ad2 : Nat → Nat) (n : Nat) : Nat → Nat := fun j => if j < n then ad j else ad2 (j - n)
theorem fc_fl_sh {ad ad2 : Nat → Nat} {f : Nat → Int32} {n : Nat} : ∀ (l : List (Option Nat)) (j : Nat), fc_fl ad2 f j l = fc_fl (fc_mix ad ad2 n) f j (l.map (fc_so n))
  | [], _ => rfl
  | none :: r, j => by
    show Value.int (f j) :: fc_fl ad2 f (j + 1) r = Value.int (f j) :: fc_fl (fc_mix ad ad2 n) f (j + 1) (r.map (fc_so n))
    rw [fc_fl_sh (ad := ad) (n := n) r (j + 1)]
  | some 0 :: r, j => by
    show Value.null :: fc_fl ad2 f (j + 1) r = Value.null :: fc_fl (fc_mix ad ad2 n) f (j + 1) (r.map (fc_so n))
    rw [fc_fl_sh (ad := ad) (n := n) r (j + 1)]
  | some (q + 1) :: r, j => by
    show Value.ref (ad2 q) :: fc_fl ad2 f (j + 1) r = Value.ref (fc_mix ad ad2 n (q + n)) :: fc_fl (fc_mix ad ad2 n) f (j + 1) (r.map (fc_so n))
    rw [fc_fl_sh (ad := ad) (n := n) r (j + 1)]
    simp [fc_mix]
    intro h
    omega
theorem fc_ce_sh {cs : Nat → ClassId} {ad ad2 : Nat → Nat} {n : Nat} (x : fc_Ce) : fc_ce cs ad2 x = fc_ce cs (fc_mix ad ad2 n) (fc_sx n x) := by
  obtain ⟨⟨t, m, l⟩, f⟩ := x
  match t with
  | 0 => rfl
  | 1 => rfl
  | 2 =>
    show fc_eq cs m (fun j => fc_rf ad2 (l.getD j none)) = fc_eq cs m (fun j => fc_rf (fc_mix ad ad2 n) ((l.map (fc_so n)).getD j none))
    congr 1
    funext j
    cases hj : l[j]? with
    | none => simp [List.getD, hj, fc_rf]
    | some o =>
      simp only [List.getD, List.getElem?_map, hj, Option.map_some, Option.getD_some]
      match o with
      | none => rfl
      | some 0 => rfl
      | some (q + 1) =>
        simp [fc_rf, fc_so, fc_mix]
        intro h
        omega
  | t + 3 =>
    show (Sum.inr (m, fc_fl ad2 f 0 l) : va_E) = Sum.inr (m, fc_fl (fc_mix ad ad2 n) f 0 (l.map (fc_so n)))
    rw [fc_fl_sh (ad := ad) (n := n) l 0]
theorem fc_wl_sh {cs : Nat → ClassId} {ad ad2 : Nat → Nat} {n : Nat} : ∀ (M : List fc_Ce) (q : Nat), fc_wl cs ad2 q M = fc_wl cs (fc_mix ad ad2 n) (n + q) (M.map (fc_sx n))
  | [], _ => rfl
  | x :: r, q => by
    show (ad2 q, fc_ce cs ad2 x) :: fc_wl cs ad2 (q + 1) r = (fc_mix ad ad2 n (n + q), fc_ce cs (fc_mix ad ad2 n) (fc_sx n x)) :: fc_wl cs (fc_mix ad ad2 n) (n + q + 1) (r.map (fc_sx n))
    rw [fc_wl_sh (ad := ad) (n := n) r (q + 1), fc_ce_sh (ad := ad) (n := n) x, show n + (q + 1) = n + q + 1 by omega]
    simp [fc_mix]
    intro h
    omega
/-- the cells that a callee made behind the caller's -/
theorem fc_merge {cs : Nat → ClassId} {ad ad2 : Nat → Nat} {L M : List fc_Ce} (hL : L.all (fc_wx L.length) = true) : fc_wl cs ad 0 L ++ fc_wl cs ad2 0 M = fc_wl cs (fc_mix ad ad2 L.length) 0 (L ++ M.map (fc_sx L.length)) := by
  have h : ∀ k, k < L.length → ad k = fc_mix ad ad2 L.length k := fun k hk => by simp [fc_mix, hk]
  rw [fc_wl_app, ← fc_wl_ad h L 0 hL (by omega), fc_wl_sh (ad := ad) (n := L.length) M 0, Nat.zero_add, Nat.add_zero]
/-! the judgement -/
def fc_v (ad : Nat → Nat) : Value → Value
  | .ref k => .ref (ad k)
  | v => v
def fc_wv (n : Nat) : Value → Bool
  | .ref k => Nat.blt k n
  | _ => true
theorem fc_v_ad {ad ad' : Nat → Nat} {n : Nat} (h : ∀ k, k < n → ad k = ad' k) (v : Value) (hv : fc_wv n v = true) : fc_v ad v = fc_v ad' v := by
  cases v with
  | ref k => show Value.ref (ad k) = Value.ref (ad' k); rw [h k (by simpa [fc_wv, Nat.blt_eq] using hv)]
  | _ => rfl
def fc_lm (ad : Nat → Nat) (ls : List (Nat × Value)) : List (Nat × Value) := ls.map (fun q => (q.1, fc_v ad q.2))
theorem fc_st_ad {ad ad' : Nat → Nat} {n : Nat} (h : ∀ k, k < n → ad k = ad' k) (st : List Value) (hv : st.all (fc_wv n) = true) : st.map (fc_v ad) = st.map (fc_v ad') := List.map_congr_left (fun v hm => fc_v_ad h v (List.all_eq_true.mp hv v hm))
theorem fc_ls_ad {ad ad' : Nat → Nat} {n : Nat} (h : ∀ k, k < n → ad k = ad' k) (ls : List (Nat × Value)) (hv : ls.all (fun q => fc_wv n q.2) = true) : fc_lm ad ls = fc_lm ad' ls := List.map_congr_left (fun q hm => by rw [fc_v_ad h q.2 (List.all_eq_true.mp hv q hm)])
def fc_kk (D : va_G) (cs : Nat → ClassId) (U : State) : Prop := fr_kk (D, cs, fun _ => True, fun _ => 0, [], []) U ∧ va_AO "FrostHole$Sheet" U
def fc_K (g : fr_G) (D : va_G) (cs : Nat → ClassId) (A : Nat → Prop) (h0 nL c n pc : Nat) (ls : List (Nat × Value)) (st : List Value) (L : List fc_Ce) : Prop :=
  ∀ (ad : Nat → Nat) (H : Heap) (locs : List Loc) (la : Array Slot), va_P D vwCl (fc_wl cs ad 0 L) H → va_D A (fc_wl cs ad 0 L) → va_S A g.2.2.2.2.1.heap H locs → ad 0 = h0 → lv_has la nL (fc_lm ad ls) →
    W g.1 g.2.1 g.2.2.1 g.2.2.2.1 g.2.2.2.2.1 g.2.2.2.2.2.1 g.2.2.2.2.2.2.1 g.2.2.2.2.2.2.2.1 g.2.2.2.2.2.2.2.2.1 g.2.2.2.2.2.2.2.2.2.1 H locs c n g.2.2.2.2.2.2.2.2.2.2.2.2 (F0 g.2.2.2.2.2.1 pc la (st.map (fc_v ad)))
def fc_E (g : fr_G) (D : va_G) (cs : Nat → ClassId) (A : Nat → Prop) (h0 c n : Nat) (L : List fc_Ce) : Prop :=
  ∀ (ad : Nat → Nat) (H : Heap) (locs : List Loc) (pc : Nat) (la : Array Slot), decode g.2.2.2.2.2.2.2.2.2.1.code pc = .ok (.return_, 1) → va_P D vwCl (fc_wl cs ad 0 L) H → va_D A (fc_wl cs ad 0 L) → va_S A g.2.2.2.2.1.heap H locs → ad 0 = h0 →
    W g.1 g.2.1 g.2.2.1 g.2.2.2.1 g.2.2.2.2.1 g.2.2.2.2.2.1 g.2.2.2.2.2.2.1 g.2.2.2.2.2.2.2.1 g.2.2.2.2.2.2.2.2.1 g.2.2.2.2.2.2.2.2.2.1 H locs c n g.2.2.2.2.2.2.2.2.2.2.2.2 (F0 g.2.2.2.2.2.1 pc la [])
def fc_ok (g : fr_G) (D : va_G) (cs : Nat → ClassId) (A : Nat → Prop) (cc : ByteArray) (nL : Nat) (own : String) (fr lo mc ms : Nat) : Prop :=
  g.1.tables.exec = Jvm.exec ∧ g.2.2.2.2.2.2.2.2.2.1.code = cc ∧ g.2.2.2.2.2.2.2.2.2.1.maxLocals = nL ∧ g.2.2.2.2.1.vm.findClass own = some g.2.2.2.2.2.1.cls ∧ (∀ x ∈ fr_gw, x.before g.2.2.2.2.2.2.1 g.2.2.2.2.1 = true) ∧ fc_kk D cs g.2.2.2.2.1 ∧ g.2.2.2.2.2.2.2.2.1.name = "<init>" ∧ (∀ q, g.2.2.2.2.1.heap.size ≤ q → A q) ∧ g.2.2.2.2.2.2.2.2.1.locks = false ∧ g.2.2.2.1.frames = fr ∧ g.2.2.2.1.locals = lo ∧ g.2.2.2.1.cells = mc ∧ g.2.2.2.1.slots = ms
section FCR
variable {g : fr_G} {D : va_G} {cs : Nat → ClassId} {A : Nat → Prop} {cc : ByteArray} {nL : Nat} {own : String} {fr lo mc ms h0 c n pc pn : Nat} {ls ls' : List (Nat × Value)} {st : List Value} {L L' : List fc_Ce}
theorem fc_iconst (hg : fc_ok g D cs A cc nL own fr lo mc ms) {i : Int} {v : Int32} (hv : Int32.ofInt i = v) (d : decode cc pc = .ok (.iconst i, 1)) (hn : pc + 1 = pn) (k : fc_K g D cs A h0 nL c n pn ls (.int v :: st) L) : fc_K g D cs A h0 nL c n pc ls st L := by
  subst hn
  exact fun ad H locs la hP hD hS h0 hl => lv_iconst hg.1 hg.2.1 d hv (k ad H locs la hP hD hS h0 hl)
theorem fc_bipush (hg : fc_ok g D cs A cc nL own fr lo mc ms) {i : Int} {v : Int32} (hv : (Int8.ofInt i).toInt32 = v) (d : decode cc pc = .ok (.bipush i, 2)) (hn : pc + 2 = pn) (k : fc_K g D cs A h0 nL c n pn ls (.int v :: st) L) : fc_K g D cs A h0 nL c n pc ls st L := by
  subst hn
  exact fun ad H locs la hP hD hS h0 hl => lv_bipush hg.1 hg.2.1 d hv (k ad H locs la hP hD hS h0 hl)
theorem fc_sipush (hg : fc_ok g D cs A cc nL own fr lo mc ms) {i : Int} {v : Int32} (hv : (Int16.ofInt i).toInt32 = v) (d : decode cc pc = .ok (.sipush i, 3)) (hn : pc + 3 = pn) (k : fc_K g D cs A h0 nL c n pn ls (.int v :: st) L) : fc_K g D cs A h0 nL c n pc ls st L := by
  subst hn
  exact fun ad H locs la hP hD hS h0 hl => lv_sipush hg.1 hg.2.1 d hv (k ad H locs la hP hD hS h0 hl)
theorem fc_lmj {ad : Nat → Nat} {j i : Nat} {v : Value} (h : ls[j]? = some (i, v)) : (fc_lm ad ls)[j]? = some (i, fc_v ad v) := by
  unfold fc_lm
  rw [List.getElem?_map, h]
  rfl
theorem fc_aload_n (hg : fc_ok g D cs A cc nL own fr lo mc ms) {i : Fin 4} (j : Nat) {x : Nat} (hj : ls[j]? = some ((i : Nat), .ref x)) (d : decode cc pc = .ok (.aload_n i, 1)) (hn : pc + 1 = pn) (k : fc_K g D cs A h0 nL c n pn ls (.ref x :: st) L) : fc_K g D cs A h0 nL c n pc ls st L := by
  subst hn
  exact fun ad H locs la hP hD hS h0 hl => lv_aload_n hg.1 hg.2.1 d rfl (lv_at hl j (fc_lmj hj)) (k ad H locs la hP hD hS h0 hl)
theorem fc_iload_n (hg : fc_ok g D cs A cc nL own fr lo mc ms) {i : Fin 4} (j : Nat) {x : Int32} (hj : ls[j]? = some ((i : Nat), .int x)) (d : decode cc pc = .ok (.iload_n i, 1)) (hn : pc + 1 = pn) (k : fc_K g D cs A h0 nL c n pn ls (.int x :: st) L) : fc_K g D cs A h0 nL c n pc ls st L := by
  subst hn
  exact fun ad H locs la hP hD hS h0 hl => lv_iload_n hg.1 hg.2.1 d rfl (lv_at hl j (fc_lmj hj)) (k ad H locs la hP hD hS h0 hl)
theorem fc_istore_n (hg : fc_ok g D cs A cc nL own fr lo mc ms) {k4 : Fin 4} {i : Nat} {x : Int32} (ks : List Nat) (d : decode cc pc = .ok (.istore_n k4, 1)) (hi : (k4 : Nat) = i) (hb : i < nL) (hn : pc + 1 = pn) (hl' : ∀ ad, lv_pick ((i, Value.int x) :: (fc_lm ad ls).filter (fun q => !(q.1 == i) && !(q.1 + 1 == i && q.2.category == 2))) ks = fc_lm ad ls') (k : fc_K g D cs A h0 nL c n pn ls' st L) : fc_K g D cs A h0 nL c n pc ls (.int x :: st) L := by
  subst hn
  exact fun ad H locs la hP hD hS h0 hl => lv_istore_n hg.1 hg.2.1 d hi hl hb rfl (fun la' hl2 => k ad H locs la' hP hD hS h0 (lv_sub hl2 ks (hl' ad)))
theorem fc_iinc (hg : fc_ok g D cs A cc nL own fr lo mc ms) {i : Nat} {m : Int} (j : Nat) {x v : Int32} (ks : List Nat) (d : decode cc pc = .ok (.iinc i m, 3)) (hj : ls[j]? = some (i, .int x)) (hv : x + Int32.ofInt m = v) (hb : i < nL) (hn : pc + 3 = pn) (hl' : ∀ ad, lv_pick ((i, Value.int v) :: (fc_lm ad ls).filter (fun q => !(q.1 == i) && !(q.1 + 1 == i && q.2.category == 2))) ks = fc_lm ad ls') (k : fc_K g D cs A h0 nL c n pn ls' st L) : fc_K g D cs A h0 nL c n pc ls st L := by
  subst hn
  exact fun ad H locs la hP hD hS h0 hl => lv_iinc hg.1 hg.2.1 d hl (fc_lmj hj) hv hb rfl (fun la' hl2 => k ad H locs la' hP hD hS h0 (lv_sub hl2 ks (hl' ad)))
theorem fc_dup (hg : fc_ok g D cs A cc nL own fr lo mc ms) {v : Value} (hv : v.category = 1) (d : decode cc pc = .ok (.dup, 1)) (hn : pc + 1 = pn) (k : fc_K g D cs A h0 nL c n pn ls (v :: v :: st) L) : fc_K g D cs A h0 nL c n pc ls (v :: st) L := by
  subst hn
  exact fun ad H locs la hP hD hS h0 hl => lv_dup hg.1 hg.2.1 d (by cases v <;> first | exact hv | rfl) (k ad H locs la hP hD hS h0 hl)
theorem fc_goto (hg : fc_ok g D cs A cc nL own fr lo mc ms) {off : Int} (d : decode cc pc = .ok (.goto off, 3)) (hn : (pc : Int) + off = (pn : Int)) (k : fc_K g D cs A h0 nL c n pn ls st L) : fc_K g D cs A h0 nL c n pc ls st L :=
  fun ad H locs la hP hD hS h0 hl => lv_goto hg.1 hg.2.1 d hn (k ad H locs la hP hD hS h0 hl)
theorem fc_ge_t (hg : fc_ok g D cs A cc nL own fr lo mc ms) {x y : Int32} {off : Int} (hc : y ≤ x) (d : decode cc pc = .ok (.if_icmp .ge off, 3)) (hn : (pc : Int) + off = (pn : Int)) (k : fc_K g D cs A h0 nL c n pn ls st L) : fc_K g D cs A h0 nL c n pc ls (.int y :: .int x :: st) L :=
  fun ad H locs la hP hD hS h0 hl => lv_icmp_ge hg.1 hg.2.1 d hn (fun _ => k ad H locs la hP hD hS h0 hl) (fun h => absurd hc h)
theorem fc_ge_f (hg : fc_ok g D cs A cc nL own fr lo mc ms) {x y : Int32} {off : Int} (m : Nat) (hc : ¬ y ≤ x) (d : decode cc pc = .ok (.if_icmp .ge off, 3)) (ht : (pc : Int) + off = (m : Int)) (hn : pc + 3 = pn) (k : fc_K g D cs A h0 nL c n pn ls st L) : fc_K g D cs A h0 nL c n pc ls (.int y :: .int x :: st) L := by
  subst hn
  exact fun ad H locs la hP hD hS h0 hl => lv_icmp_ge hg.1 hg.2.1 d ht (fun h => absurd h hc) (fun _ => k ad H locs la hP hD hS h0 hl)
theorem fc_icne_t (hg : fc_ok g D cs A cc nL own fr lo mc ms) {x y : Int32} {off : Int} (hc : ¬ x = y) (d : decode cc pc = .ok (.if_icmp .ne off, 3)) (hn : (pc : Int) + off = (pn : Int)) (k : fc_K g D cs A h0 nL c n pn ls st L) : fc_K g D cs A h0 nL c n pc ls (.int y :: .int x :: st) L :=
  fun ad H locs la hP hD hS h0 hl => lv_icmp_ne hg.1 hg.2.1 d hn (fun _ => k ad H locs la hP hD hS h0 hl) (fun h => absurd h hc)
theorem fc_icne_f (hg : fc_ok g D cs A cc nL own fr lo mc ms) {x y : Int32} {off : Int} (m : Nat) (hc : x = y) (d : decode cc pc = .ok (.if_icmp .ne off, 3)) (ht : (pc : Int) + off = (m : Int)) (hn : pc + 3 = pn) (k : fc_K g D cs A h0 nL c n pn ls st L) : fc_K g D cs A h0 nL c n pc ls (.int y :: .int x :: st) L := by
  subst hn
  exact fun ad H locs la hP hD hS h0 hl => lv_icmp_ne hg.1 hg.2.1 d ht (fun h => absurd hc h) (fun _ => k ad H locs la hP hD hS h0 hl)
theorem fc_ifne_t (hg : fc_ok g D cs A cc nL own fr lo mc ms) {x : Int32} {off : Int} (hc : ¬ x = 0) (d : decode cc pc = .ok (.ifCond .ne off, 3)) (hn : (pc : Int) + off = (pn : Int)) (k : fc_K g D cs A h0 nL c n pn ls st L) : fc_K g D cs A h0 nL c n pc ls (.int x :: st) L :=
  fun ad H locs la hP hD hS h0 hl => lv_if_ne hg.1 hg.2.1 d hn (fun _ => k ad H locs la hP hD hS h0 hl) (fun h => absurd h hc)
theorem fc_ifne_f (hg : fc_ok g D cs A cc nL own fr lo mc ms) {x : Int32} {off : Int} (m : Nat) (hc : x = 0) (d : decode cc pc = .ok (.ifCond .ne off, 3)) (ht : (pc : Int) + off = (m : Int)) (hn : pc + 3 = pn) (k : fc_K g D cs A h0 nL c n pn ls st L) : fc_K g D cs A h0 nL c n pc ls (.int x :: st) L := by
  subst hn
  exact fun ad H locs la hP hD hS h0 hl => lv_if_ne hg.1 hg.2.1 d ht (fun h => absurd hc h) (fun _ => k ad H locs la hP hD hS h0 hl)
/-- a primitive array is made: t = 0 ints, t = 1 booleans -/
theorem fc_newI (hg : fc_ok g D cs A cc nL own fr lo mc ms) {x : Int32} {N : Nat} (hw : Cond.arrayClass .int ∈ fr_gw) (hx : ¬ x < 0) (hN : x.toNatClampNeg = N) (hby : N * 4 ≤ 536870912) (hc : c + 1 ≤ mc) (hs : n + N ≤ ms) (hL : L.all (fc_wx L.length) = true) (hst : st.all (fc_wv L.length) = true) (hls : ls.all (fun q => fc_wv L.length q.2) = true) (h1 : 1 ≤ L.length) (d : decode cc pc = .ok (.newarray .int, 2)) (hn : pc + 2 = pn) {k0 : Nat} (hk : L.length = k0) {c' n' : Nat} (hc' : c + 1 = c') (hs' : n + N = n') (he : L ++ [((0, N, []), fun _ => 0)] = L') (k : fc_K g D cs A h0 nL c' n' pn ls (.ref k0 :: st) L') : fc_K g D cs A h0 nL c n pc ls (.int x :: st) L := by
  subst hn; subst hk; subst hc'; subst hs'; subst he
  intro ad H locs la hP hD hS e0 hl
  refine va_newa (atype := .int) hg.1 hg.2.1 (hg.2.2.2.2.1 _ hw) rfl hg.2.2.2.2.2.1.1.1 hP hD hS hg.2.2.2.2.2.2.2.1 (a0 := (N, .inl (fun _ => 0))) (fun _ => rfl) hx hN hby (by rw [hg.2.2.2.2.2.2.2.2.2.2.2.1]; exact hc) (by rw [hg.2.2.2.2.2.2.2.2.2.2.2.2]; exact hs) d (fun q cA H1 qK qP qD qS => ?_)
  have e1 : g.2.2.2.2.1.vm.findClass ("[" ++ (FieldType.int).toString) = some cA := (qK.2 3 (cA, .int) rfl).2
  have e2 : g.2.2.2.2.1.vm.findClass ("[" ++ (FieldType.int).toString) = some (cs 0) := (hg.2.2.2.2.2.1.1.1.2 0 (cs 0, .int) rfl).2
  have e3 : cA = cs 0 := Option.some.inj (e1.symm.trans e2)
  subst e3
  have ha : ∀ k, k < L.length → ad k = va_up ad L.length q k := fun k hk => (va_up_ne ad q (by omega)).symm
  have eg : fc_wl cs ad 0 L ++ [(q, .inl (cs 0, N, .inl (fun _ => 0)))] = fc_wl cs (va_up ad L.length q) 0 (L ++ [((0, N, []), fun _ => 0)]) := fc_grow (x := ((0, N, []), fun _ => 0)) hL rfl
  have e4 := k (va_up ad L.length q) H1 locs la (eg ▸ qP) (eg ▸ qD) qS (by rw [va_up_ne _ _ (by omega)]; exact e0) (by rw [← fc_ls_ad ha ls hls]; exact hl)
  have e5 : (Value.ref L.length :: st).map (fc_v (va_up ad L.length q)) = Value.ref q :: st.map (fc_v ad) := by
    show Value.ref (va_up ad L.length q L.length) :: _ = _
    rw [va_up_self, ← fc_st_ad ha st hst]
  rw [e5] at e4
  exact e4
theorem fc_newZ (hg : fc_ok g D cs A cc nL own fr lo mc ms) {x : Int32} {N : Nat} (hw : Cond.arrayClass .boolean ∈ fr_gw) (hx : ¬ x < 0) (hN : x.toNatClampNeg = N) (hby : N * 1 ≤ 536870912) (hc : c + 1 ≤ mc) (hs : n + N ≤ ms) (hL : L.all (fc_wx L.length) = true) (hst : st.all (fc_wv L.length) = true) (hls : ls.all (fun q => fc_wv L.length q.2) = true) (h1 : 1 ≤ L.length) (d : decode cc pc = .ok (.newarray .boolean, 2)) (hn : pc + 2 = pn) {k0 : Nat} (hk : L.length = k0) {c' n' : Nat} (hc' : c + 1 = c') (hs' : n + N = n') (he : L ++ [((1, N, []), fun _ => 0)] = L') (k : fc_K g D cs A h0 nL c' n' pn ls (.ref k0 :: st) L') : fc_K g D cs A h0 nL c n pc ls (.int x :: st) L := by
  subst hn; subst hk; subst hc'; subst hs'; subst he
  intro ad H locs la hP hD hS e0 hl
  refine va_newa (atype := .boolean) hg.1 hg.2.1 (hg.2.2.2.2.1 _ hw) rfl hg.2.2.2.2.2.1.1.1 hP hD hS hg.2.2.2.2.2.2.2.1 (a0 := (N, .inl (fun _ => 0))) (fun _ => rfl) hx hN hby (by rw [hg.2.2.2.2.2.2.2.2.2.2.2.1]; exact hc) (by rw [hg.2.2.2.2.2.2.2.2.2.2.2.2]; exact hs) d (fun q cA H1 qK qP qD qS => ?_)
  have e1 : g.2.2.2.2.1.vm.findClass ("[" ++ (FieldType.boolean).toString) = some cA := (qK.2 3 (cA, .boolean) rfl).2
  have e2 : g.2.2.2.2.1.vm.findClass ("[" ++ (FieldType.boolean).toString) = some (cs 1) := (hg.2.2.2.2.2.1.1.1.2 1 (cs 1, .boolean) rfl).2
  have e3 : cA = cs 1 := Option.some.inj (e1.symm.trans e2)
  subst e3
  have ha : ∀ k, k < L.length → ad k = va_up ad L.length q k := fun k hk => (va_up_ne ad q (by omega)).symm
  have eg : fc_wl cs ad 0 L ++ [(q, .inl (cs 1, N, .inl (fun _ => 0)))] = fc_wl cs (va_up ad L.length q) 0 (L ++ [((1, N, []), fun _ => 0)]) := fc_grow (x := ((1, N, []), fun _ => 0)) hL rfl
  have e4 := k (va_up ad L.length q) H1 locs la (eg ▸ qP) (eg ▸ qD) qS (by rw [va_up_ne _ _ (by omega)]; exact e0) (by rw [← fc_ls_ad ha ls hls]; exact hl)
  have e5 : (Value.ref L.length :: st).map (fc_v (va_up ad L.length q)) = Value.ref q :: st.map (fc_v ad) := by
    show Value.ref (va_up ad L.length q L.length) :: _ = _
    rw [va_up_self, ← fc_st_ad ha st hst]
  rw [e5] at e4
  exact e4
theorem fc_newR (hg : fc_ok g D cs A cc nL own fr lo mc ms) {x : Int32} {N ix : Nat} (hw : Cond.classLink own ix "FrostHole$Sheet" ∈ fr_gw) (hx : ¬ x < 0) (hN : x.toNatClampNeg = N) (hby : N * 4 ≤ 536870912) (hc : c + 1 ≤ mc) (hs : n + N ≤ ms) (hL : L.all (fc_wx L.length) = true) (hst : st.all (fc_wv L.length) = true) (hls : ls.all (fun q => fc_wv L.length q.2) = true) (h1 : 1 ≤ L.length) (d : decode cc pc = .ok (.anewarray ix, 3)) (hn : pc + 3 = pn) {k0 : Nat} (hk : L.length = k0) {c' n' : Nat} (hc' : c + 1 = c') (hs' : n + N = n') (he : L ++ [((2, N, []), fun _ => 0)] = L') (k : fc_K g D cs A h0 nL c' n' pn ls (.ref k0 :: st) L') : fc_K g D cs A h0 nL c n pc ls (.int x :: st) L := by
  subst hn; subst hk; subst hc'; subst hs'; subst he
  intro ad H locs la hP hD hS e0 hl
  refine va_newq hg.1 hg.2.1 hg.2.2.2.1 (hg.2.2.2.2.1 _ hw) hg.2.2.2.2.2.1.2 hg.2.2.2.2.2.1.1.1 hP hD hS hg.2.2.2.2.2.2.2.1 hx hN hby (by rw [hg.2.2.2.2.2.2.2.2.2.2.2.1]; exact hc) (by rw [hg.2.2.2.2.2.2.2.2.2.2.2.2]; exact hs) d (fun q cA H1 qK qP qD qS => ?_)
  have e3 : cA = cs 2 := by
    obtain ⟨kA, comp, z1, z2, z3, z4⟩ := (qK.2 3 (cA, .object "FrostHole$Sheet") rfl).2
    obtain ⟨kB, comp', y1, y2, y3, y4⟩ := (hg.2.2.2.2.2.1.1.1.2 2 (cs 2, .object "FrostHole$Sheet") rfl).2
    exact Option.some.inj (z4.symm.trans y4)
  subst e3
  have ha : ∀ k, k < L.length → ad k = va_up ad L.length q k := fun k hk => (va_up_ne ad q (by omega)).symm
  have eg : fc_wl cs ad 0 L ++ [(q, .inl (cs 2, N, .inr (.inr (.inr (.inr (fun _ => none))))))] = fc_wl cs (va_up ad L.length q) 0 (L ++ [((2, N, []), fun _ => 0)]) := fc_grow (x := ((2, N, []), fun _ => 0)) hL rfl
  have e4 := k (va_up ad L.length q) H1 locs la (eg ▸ qP) (eg ▸ qD) qS (by rw [va_up_ne _ _ (by omega)]; exact e0) (by rw [← fc_ls_ad ha ls hls]; exact hl)
  have e5 : (Value.ref L.length :: st).map (fc_v (va_up ad L.length q)) = Value.ref q :: st.map (fc_v ad) := by
    show Value.ref (va_up ad L.length q L.length) :: _ = _
    rw [va_up_self, ← fc_st_ad ha st hst]
  rw [e5] at e4
  exact e4
def fc_no (own : String) (ix ci : Nat) (fl : List (Option Nat)) (N : Nat) : Prop := ∃ (C : String) (T : u_T) (ty : Nat → FieldType), vwCl[ci]? = some (C, T, N) ∧ (∀ x ∈ u_ws C T N, x ∈ fr_gw) ∧ (∀ k, k < N → parseFieldDescriptor (T k).2.2.1 = some (ty k)) ∧ Cond.classLink own ix C ∈ fr_gw ∧ Cond.instantiable C N ∈ fr_gw ∧ Cond.initialized C ∈ fr_gw ∧ (∀ j, j < N → defaultValue (ty j) = vp_V (fc_fl (fun _ => 0) (fun _ => 0) 0 fl) j) ∧ fl.all (fc_wo 0) = true
theorem fc_newO (hg : fc_ok g D cs A cc nL own fr lo mc ms) {N ix ci : Nat} {fl : List (Option Nat)} (ho : fc_no own ix ci fl N) (hc : c + 1 ≤ mc) (hs : n + N ≤ ms) (hL : L.all (fc_wx L.length) = true) (hst : st.all (fc_wv L.length) = true) (hls : ls.all (fun q => fc_wv L.length q.2) = true) (h1 : 1 ≤ L.length) (d : decode cc pc = .ok (.new ix, 3)) (hn : pc + 3 = pn) {k0 : Nat} (hk : L.length = k0) {c' n' : Nat} (hc' : c + 1 = c') (hs' : n + N = n') (he : L ++ [((3, ci, fl), fun _ => 0)] = L') (k : fc_K g D cs A h0 nL c' n' pn ls (.ref k0 :: st) L') : fc_K g D cs A h0 nL c n pc ls st L := by
  subst hn; subst hk; subst hc'; subst hs'; subst he
  obtain ⟨C, T, ty, o1, o2, o3, o4, o5, o6, o7, o8⟩ := ho
  intro ad H locs la hP hD hS e0 hl
  have H5 := hg.2.2.2.2.1
  have o8' : fc_wx L.length ((3, ci, fl), fun _ => 0) = true := by
    show fl.all _ = true
    rw [List.all_eq_true] at o8 ⊢
    intro x hx
    have := o8 x hx
    match x, this with
    | none, _ => rfl
    | some 0, _ => rfl
    | some (q + 1), h => simp [fc_wo, Nat.blt_eq] at h
  have ef : fc_fl (fun _ => 0) (fun _ => 0) 0 fl = fc_fl ad (fun _ => 0) 0 fl := fc_fl_ad (n := 0) (fun k hk => by omega) fl 0 o8
  refine va_new hg.1 hg.2.1 H5 o2 ty o3 hg.2.2.2.1 (H5 _ o4) (H5 _ o5) (H5 _ o6) hg.2.2.2.2.2.1.1.1 hP hD hS hg.2.2.2.2.2.2.2.1 o1 (fs := fc_fl ad (fun _ => 0) 0 fl) (by rw [← ef]; exact o7) (by rw [hg.2.2.2.2.2.2.2.2.2.2.2.1]; exact hc) (by rw [hg.2.2.2.2.2.2.2.2.2.2.2.2]; exact hs) d (fun q H1 qP qD qS => ?_)
  have ha : ∀ k, k < L.length → ad k = va_up ad L.length q k := fun k hk => (va_up_ne ad q (by omega)).symm
  have eg : fc_wl cs ad 0 L ++ [(q, .inr (ci, fc_fl ad (fun _ => 0) 0 fl))] = fc_wl cs (va_up ad L.length q) 0 (L ++ [((3, ci, fl), fun _ => 0)]) := fc_grow (x := ((3, ci, fl), fun _ => 0)) hL o8'
  have e4 := k (va_up ad L.length q) H1 locs la (eg ▸ qP) (eg ▸ qD) qS (by rw [va_up_ne _ _ (by omega)]; exact e0) (by rw [← fc_ls_ad ha ls hls]; exact hl)
  have e5 : (Value.ref L.length :: st).map (fc_v (va_up ad L.length q)) = Value.ref q :: st.map (fc_v ad) := by
    show Value.ref (va_up ad L.length q L.length) :: _ = _
    rw [va_up_self, ← fc_st_ad ha st hst]
  rw [e5] at e4
  exact e4
def fc_fp (own : String) (ix ci j : Nat) (ty : FieldType) (fin : Bool) : Prop := ∃ (C : String) (T : u_T) (N : Nat) (ty0 : Nat → FieldType), vwCl[ci]? = some (C, T, N) ∧ j < N ∧ (∀ x ∈ u_ws C T N, x ∈ fr_gw) ∧ Cond.fieldLink own ix (T j).1 (T j).2.1 (T j).2.2.1 ∈ fr_gw ∧ (∀ k, k < N → parseFieldDescriptor (T k).2.2.1 = some (ty0 k)) ∧ (∀ a, a < N → ∀ b, b < N → a ≠ b → (T a).2.1 ≠ (T b).2.1) ∧ (T j).2.2.2 = fin ∧ parseFieldDescriptor (T j).2.2.1 = some ty ∧ (T j).1 = own
/-- a field of the object at place q: its new value v; the world is then L' -/
theorem fc_put (hg : fc_ok g D cs A cc nL own fr lo mc ms) {ix ci j q : Nat} {ty : FieldType} {fin : Bool} {v : Value} {fl : List (Option Nat)} {f : Nat → Int32} {x' : fc_Ce} (ho : fc_fp own ix ci j ty fin) (hq : L[q]? = some ((3, ci, fl), f)) (hv : ∀ ad, narrow ty (fc_v ad v) = fc_v ad v) (ht : ∀ ad, fits ty (fc_v ad v) = true) (hj : ∀ ad, j < (fc_fl ad f 0 fl).length) (hx : ∀ ad, (Sum.inr (ci, (fc_fl ad f 0 fl).set j (fc_v ad v)) : va_E) = fc_ce cs ad x') (he : L.set q x' = L') (d : decode cc pc = .ok (.putfield ix, 3)) (hn : pc + 3 = pn) (k : fc_K g D cs A h0 nL c n pn ls st L') : fc_K g D cs A h0 nL c n pc ls (v :: .ref q :: st) L := by
  subst hn; subst he
  obtain ⟨C, T, N, ty0, o1, o2, o3, o4, o5, o6, o7, o8, o9⟩ := ho
  intro ad H locs la hP hD hS e0 hl
  have H5 := hg.2.2.2.2.1
  have es : (fc_wl cs ad 0 L).set q (ad q, .inr (ci, (fc_fl ad f 0 fl).set j (fc_v ad v))) = fc_wl cs ad 0 (L.set q x') := by rw [hx ad]; exact fc_set0
  cases fin with
  | true => exact va_putF hg.1 hg.2.1 H5 o3 ty0 o5 o6 hg.2.2.2.1 hg.2.2.2.2.2.1.1.1 hP hD hS q (fc_get0 hq) o1 j o2 (H5 _ o4) (fun _ h => h) o7 hg.2.2.2.2.2.2.1 o9 o8 (hv ad) (ht ad) (hj ad) d (fun H1 locs1 q1 q2 q3 => k ad H1 locs1 la (es ▸ q1) (es ▸ q2) q3 e0 hl)
  | false => exact va_put hg.1 hg.2.1 H5 o3 ty0 o5 o6 hg.2.2.2.1 hg.2.2.2.2.2.1.1.1 hP hD hS q (fc_get0 hq) o1 j o2 (H5 _ o4) (fun _ h => h) o7 o8 (hv ad) (ht ad) (hj ad) d (fun H1 locs1 q1 q2 q3 => k ad H1 locs1 la (es ▸ q1) (es ▸ q2) q3 e0 hl)
theorem fc_getr (hg : fc_ok g D cs A cc nL own fr lo mc ms) {ix ci j q q' : Nat} {fl : List (Option Nat)} {f : Nat → Int32} (ho : fr_fo own ix ci j) (hq : L[q]? = some ((3, ci, fl), f)) (hv : ∀ ad, (fc_fl ad f 0 fl)[j]? = some (.ref (ad q'))) (d : decode cc pc = .ok (.getfield ix, 3)) (hn : pc + 3 = pn) (k : fc_K g D cs A h0 nL c n pn ls (.ref q' :: st) L) : fc_K g D cs A h0 nL c n pc ls (.ref q :: st) L := by
  subst hn
  obtain ⟨C, T, N, h1, h2, h3, h4⟩ := ho
  intro ad H locs la hP hD hS e0 hl
  exact va_get hg.1 hg.2.1 hg.2.2.2.2.1 h3 hg.2.2.2.1 hg.2.2.2.2.2.1.1.1 hP q (fc_get0 hq) h1 j h2 (hg.2.2.2.2.1 _ h4) (fun _ h => h) (hv ad) d (k ad H locs la hP hD hS e0 hl)
theorem fc_iastore (hg : fc_ok g D cs A cc nL own fr lo mc ms) {q m : Nat} {l : List (Option Nat)} {f : Nat → Int32} {i v : Int32} {j : Nat} (hq : L[q]? = some ((0, m, l), f)) (hi : 0 ≤ i.toInt ∧ i.toInt < m) (hj : i.toNatClampNeg = j) (he : L.set q ((0, m, l), upd f j v) = L') (d : decode cc pc = .ok (.iastore, 1)) (hn : pc + 1 = pn) (k : fc_K g D cs A h0 nL c n pn ls st L') : fc_K g D cs A h0 nL c n pc ls (.int v :: .int i :: .ref q :: st) L := by
  subst hn; subst he; subst hj
  intro ad H locs la hP hD hS e0 hl
  have es : (fc_wl cs ad 0 L).set q (ad q, .inl (cs 0, m, .inl (upd f i.toNatClampNeg v))) = fc_wl cs ad 0 (L.set q ((0, m, l), upd f i.toNatClampNeg v)) := fc_set0 (x := ((0, m, l), upd f i.toNatClampNeg v))
  exact va_iast hg.1 hg.2.1 hg.2.2.2.2.2.1.1.1 hP hD hS q 0 (fc_get0 hq) rfl (fr_in_vp hi) d (fun H1 locs1 q1 q2 q3 => k ad H1 locs1 la (es ▸ q1) (es ▸ q2) q3 e0 hl)
theorem fc_up_rf {ad : Nat → Nat} {l : List (Option Nat)} {q' : Nat} : va_up (fun j => fc_rf ad (l.getD j none)) l.length (some (ad q')) = fun j => fc_rf ad ((l ++ [some (q' + 1)]).getD j none) := by
  funext j
  by_cases hj : j = l.length
  · subst hj
    rw [va_up_self]
    simp [List.getD, fc_rf]
  · rw [va_up_ne _ _ hj]
    by_cases hl : j < l.length
    · simp [List.getD, List.getElem?_append_left hl]
    · have h1 : l[j]? = none := List.getElem?_eq_none (by omega)
      have h2 : (l ++ [some (q' + 1)])[j]? = none := List.getElem?_eq_none (by simp; omega)
      simp [List.getD, h1, h2]
theorem fc_aastore (hg : fc_ok g D cs A cc nL own fr lo mc ms) {q q' m : Nat} {l fl : List (Option Nat)} {f f' : Nat → Int32} {i : Int32} (hq : L[q]? = some ((2, m, l), f)) (hq' : L[q']? = some ((3, 5, fl), f')) (hi : 0 ≤ i.toInt ∧ i.toInt < m) (hj : i.toNatClampNeg = l.length) (he : L.set q ((2, m, l ++ [some (q' + 1)]), f) = L') (d : decode cc pc = .ok (.aastore, 1)) (hn : pc + 1 = pn) (k : fc_K g D cs A h0 nL c n pn ls st L') : fc_K g D cs A h0 nL c n pc ls (.ref q' :: .int i :: .ref q :: st) L := by
  subst hn; subst he
  intro ad H locs la hP hD hS e0 hl
  have es : (fc_wl cs ad 0 L).set q (ad q, .inl (cs 2, m, .inr (.inr (.inr (.inr (va_up (fun j => fc_rf ad (l.getD j none)) i.toNatClampNeg (some (ad q')))))))) = fc_wl cs ad 0 (L.set q ((2, m, l ++ [some (q' + 1)]), f)) := by
    rw [hj, fc_up_rf]
    exact fc_set0 (x := ((2, m, l ++ [some (q' + 1)]), f))
  exact va_astq hg.1 hg.2.1 hg.2.2.2.2.2.1.1.1 hP hD hS q 2 q' 5 (r := (RX5, TX5, 3)) (fc_get0 hq) rfl (fc_get0 hq') rfl (fr_in_vp hi) d (fun H1 locs1 q1 q2 q3 => k ad H1 locs1 la (es ▸ q1) (es ▸ q2) q3 e0 hl)
theorem fc_obj (hg : fc_ok g D cs A cc nL own fr lo mc ms) {ix q : Nat} (h1 : Cond.methodLink own ix Lib.objectInit ∈ fr_gw) (h2 : Cond.instanceMethod Lib.objectInit ∈ fr_gw) (h3 : Cond.code Lib.objectInit ⟨#[0xb1]⟩ 1 none ∈ fr_gw) (hf : 1 ≤ fr) (hlo : 8 + 12 ≤ lo) (hst : ∀ ad, ((st.map (fc_v ad)).map fun v => v.category).sum ≤ 8) (d : decode cc pc = .ok (.invokespecial ix, 3)) (hn : pc + 3 = pn) (k : fc_K g D cs A h0 nL c n pn ls st L) : fc_K g D cs A h0 nL c n pc ls (.ref q :: st) L := by
  subst hn
  intro ad H locs la hP hD hS e0 hl
  have H5 := hg.2.2.2.2.1
  exact W.objInit hg.1 hg.2.1 hg.2.2.2.1 (H5 _ h1) (H5 _ h2) (H5 _ h3) rfl (by rw [hg.2.2.1]; exact hl.1) rfl d (by rw [hg.2.2.2.2.2.2.2.2.2.1]; exact hf) (by rw [hg.2.2.2.2.2.2.2.2.2.2.1]; show 2 * 0 + _ + 12 ≤ lo; have := hst ad; omega) (k ad H locs la hP hD hS e0 hl)
theorem fc_ret (hg : fc_ok g D cs A cc nL own fr lo mc ms) (d : decode cc pc = .ok (.return_, 1)) (hE : fc_E g D cs A h0 c n L) : fc_K g D cs A h0 nL c n pc ls [] L :=
  fun ad H locs la hP hD hS e0 hl => hE ad H locs pc la (by rw [hg.2.1]; exact d) hP hD hS e0
end FCR
/-! a constructor's contract -/
def fc_M (y : MethodName) (cc : ByteArray) (nL fr lo mc ms ci : Nat) (fl : List (Option Nat)) (av : List Value) (Lr : List fc_Ce) : Prop :=
  ∀ (l : Launch) (D : va_G) (cs : Nat → ClassId) (h0 sz : Nat), Met l y (.code y cc nL none :: fr_gw) { frames := fr, cells := mc, slots := ms, locals := lo } (va_Pc (.ref h0 :: av) (fun U => U.heap.size = sz ∧ va_P D vwCl (fc_wl cs (fun _ => h0) 0 [((3, ci, fl), fun _ => 0)]) U.heap ∧ fc_kk D cs U))
    (va_Qv (fun (_ : Unit) => True) (fun _ t => ∃ ad : Nat → Nat, ad 0 = h0 ∧ va_P D vwCl (fc_wl cs ad 0 Lr) t.heap ∧ va_D (va_A (fc_wl cs (fun _ => h0) 0 [((3, ci, fl), fun _ => 0)]) sz) (fc_wl cs ad 0 Lr)) (va_A (fc_wl cs (fun _ => h0) 0 [((3, ci, fl), fun _ => 0)]) sz)) mc ms (va_A (fc_wl cs (fun _ => h0) 0 [((3, ci, fl), fun _ => 0)]) sz)
theorem fc_kk_warm {D : va_G} {cs : Nat → ClassId} {s U : State} (hW : s.WarmedH U.vm) (h : fc_kk D cs s) : fc_kk D cs U := ⟨fr_kk_warm hW h.1, va_AO.moved hW.alike h.2⟩
theorem fc_kk_same {D : va_G} {cs : Nat → ClassId} {s U : State} (hv : s.vm = U.vm) (h : fc_kk D cs s) : fc_kk D cs U := ⟨fr_kk_same hv h.1, va_AO.moved (by rw [hv]; exact Vm.Alike.refl U.vm) h.2⟩
theorem fc_mk {y : MethodName} {cc : ByteArray} {nL fr lo mc ms ci : Nat} {fl : List (Option Nat)} {av : List Value} {Lr : List fc_Ce} {ls : List (Nat × Value)} (hy : plainName y.cls = true) (hyn : y.name = "<init>") (hw : fl.all (fc_wo 0) = true) (hlen : ∀ h0, (lg_sl (.ref h0 :: av)).length ≤ nL) (hls : ∀ ad : Nat → Nat, lv_args 0 (.ref (ad 0) :: av) = fc_lm ad ls)
    (body : ∀ g D cs A h0, fc_ok g D cs A cc nL y.cls fr lo mc ms → fc_E g D cs A h0 mc ms Lr → fc_K g D cs A h0 nL 0 0 0 ls [] [((3, ci, fl), fun _ => 0)]) : fc_M y cc nL fr lo mc ms ci fl av Lr := by
  intro l D cs h0 sz
  refine Met.ofW (cc := cc) (maxL := nL) (ret := none) hy rfl ?_
  intro p e s m args below meth c s₁ B hml hv
  obtain ⟨rfl, hsz, hP, hk⟩ := hv
  subst hsz
  generalize hA : va_A (fc_wl cs (fun _ => h0) 0 [((3, ci, fl), fun _ => 0)]) s.heap.size = A
  have hA1 : ∀ q, s.heap.size ≤ q → A q := fun q h => by rw [← hA]; exact Or.inr h
  have hA0 : A h0 := by rw [← hA]; exact Or.inl ⟨0, _, rfl⟩
  have hD : va_D A (fc_wl cs (fun _ => h0) 0 [((3, ci, fl), fun _ => 0)]) := by
    refine ⟨fun i j p q hi hj _ => ?_, fun k q hq => ?_⟩
    · have h1 := (List.getElem?_eq_some_iff.mp hi).1
      have h2 := (List.getElem?_eq_some_iff.mp hj).1
      simp [fc_wl] at h1 h2
      omega
    · match k, hq with
      | 0, hq => cases hq; exact hA0
      | k + 1, hq => simp [fc_wl] at hq
  have hok : fc_ok (p, l, e, (headSpec (.code y cc nL none :: fr_gw) { frames := fr, cells := mc, slots := ms, locals := lo }).room, s, m, (.ref h0 :: av : List Value).toArray, below, meth, c, 0, 0, MQ below (va_Qv (fun (_ : Unit) => True) (fun _ t => ∃ ad : Nat → Nat, ad 0 = h0 ∧ va_P D vwCl (fc_wl cs ad 0 Lr) t.heap ∧ va_D A (fc_wl cs ad 0 Lr)) A) (.ref h0 :: av : List Value).toArray s mc ms A) D cs A cc nL y.cls fr lo mc ms :=
    ⟨B.exec, B.bytes, hml, findClass_of_methodNamed B.named, fun x hx => atoms_spec (ws := .code y cc nL none :: fr_gw) B.pre x (List.mem_cons_of_mem _ hx), hk, by rw [← hyn]; exact (name_of_methodNamed B.named B.method).1, hA1, B.notSynchronized, rfl, rfl, rfl, rfl⟩
  have hb := body _ D cs A h0 hok ?_
  · rw [lg_entry_eq]
    have hl := lv_entry (.ref h0 :: av) (hlen h0)
    rw [show lv_args 0 (Value.ref h0 :: av) = fc_lm (fun _ => h0) ls from hls (fun _ => h0)] at hl
    exact hb (fun _ => h0) s.heap [] _ hP hD va_S.rf rfl hl
  · intro ad H locs pc la hd qP qD qS e0
    exact W.vret B.exec rfl B.returns (fun t ht hW => ⟨⟨(), rfl, trivial, ad, e0, by rw [ht]; exact qP, qD⟩, qS.F ht⟩) qS.2.2 hd B.notSynchronized
theorem fc_rng (X Y : va_W) : (List.range X.length).map (fun i => (X ++ Y)[i]?) = X.map some := by
  apply List.ext_getElem
  · simp
  · intro i h1 h2
    simp only [List.length_map, List.length_range] at h1
    simp [List.getElem?_append_left h1]
theorem fc_nd : ∀ (l : List Nat), l.Nodup → va_nd l = true
  | [], _ => rfl
  | a :: l, h => by
    have := List.nodup_cons.mp h
    simp [va_nd, this.1, fc_nd l this.2]
def fc_cI (own : String) (ix : Nat) (y : MethodName) (cc : ByteArray) (nL m : Nat) : Prop :=
  (Cond.methodLink own ix y ∈ fr_gw ∨ ∃ host, (own, ix, y, host) ∈ fr_nl) ∧ Cond.instanceMethod y ∈ fr_gw ∧ Cond.initialized y.cls ∈ fr_gw ∧ Cond.code y cc nL none ∈ fr_gw ∧ y.cls ≠ "java/lang/invoke/MethodHandle" ∧ y.cls ≠ "java/lang/invoke/VarHandle" ∧ (parseMethodDescriptor y.desc).map (fun d => d.parameters.length) = some m ∧ y.name = "<init>"
section FCC
variable {g : fr_G} {D : va_G} {cs : Nat → ClassId} {A : Nat → Prop} {cc cc' : ByteArray} {nL nL' : Nat} {own : String} {fr lo mc ms fr' lo' mc' ms' h0 c n pc pn ci : Nat} {ls : List (Nat × Value)} {st av : List Value} {L L' Lr : List fc_Ce} {y : MethodName} {fl : List (Option Nat)}
theorem fc_call (hg : fc_ok g D cs A cc nL own fr lo mc ms) (hM : fc_M y cc' nL' fr' lo' mc' ms' ci fl av Lr) {ix m : Nat} (hc : fc_cI own ix y cc' nL' m) (hfl : fl.all (fc_wo 0) = true) (hL : L.all (fc_wx L.length) = true) (hst : st.all (fc_wv (L.length + 1)) = true) (hls : ls.all (fun q => fc_wv (L.length + 1) q.2) = true) (h1 : 1 ≤ L.length) (hav : ∀ ad, av.map (fc_v ad) = av) (hm : av.length = m) (hfr : fr' + 1 ≤ fr) (hlo : 8 + (nL' + 11) + lo' ≤ lo) (hcc : c + mc' ≤ mc) (hss : n + ms' ≤ ms) (hcat : ∀ ad, ((st.map (fc_v ad)).map fun v => v.category).sum ≤ 8) (d : decode cc pc = .ok (.invokespecial ix, 3)) (hn : pc + 3 = pn) {c' n' : Nat} (hc' : c + mc' = c') (hs' : n + ms' = n') {k0 : Nat} (hk0 : L.length = k0) {L1 : List fc_Ce} (he1 : L ++ [((3, ci, fl), fun _ => 0)] = L1) (he : L ++ Lr.map (fc_sx L.length) = L') {stk : List Value} (hk : av.reverse ++ .ref k0 :: st = stk) (k : fc_K g D cs A h0 nL c' n' pn ls st L') : fc_K g D cs A h0 nL c n pc ls stk L1 := by
  subst hn; subst hc'; subst hs'; subst he; subst hk; subst hk0; subst he1
  intro ad H locs la hP hD hS e0 hl
  have H5 := hg.2.2.2.2.1
  obtain ⟨c1, c2, c3, c4, c5, c6, c7, c8⟩ := hc
  have hw1 : ∀ ad' : Nat → Nat, ad' 0 = ad L.length → fc_wl cs ad' 0 [((3, ci, fl), fun _ => 0)] = [(ad L.length, fc_ce cs ad ((3, ci, fl), fun _ => 0))] := fun ad' h => by
    show [(ad' 0, fc_ce cs ad' _)] = _
    rw [h, fc_ce_ad (n := 0) (ad' := ad) (fun k hk => by omega) ((3, ci, fl), fun _ => 0) hfl]
  have ew : fc_wl cs ad 0 (L ++ [((3, ci, fl), fun _ => 0)]) = fc_wl cs ad 0 L ++ fc_wl cs (fun _ => ad L.length) 0 [((3, ci, fl), fun _ => 0)] := by
    rw [fc_wl_app, hw1 (fun _ => ad L.length) rfl, Nat.zero_add]
    rfl
  rw [ew] at hP hD
  have hlen : (fc_wl cs ad 0 L).length = L.length := fc_wl_len L 0
  have hC : [L.length].map (fun i => (fc_wl cs ad 0 L ++ fc_wl cs (fun _ => ad L.length) 0 [((3, ci, fl), fun _ => 0)])[i]?) = (fc_wl cs (fun _ => ad L.length) 0 [((3, ci, fl), fun _ => 0)]).map some := by
    show [(fc_wl cs ad 0 L ++ _)[L.length]?] = _
    rw [List.getElem?_append_right (by omega), hlen, Nat.sub_self]
    rfl
  have hR : (List.range L.length).map (fun i => (fc_wl cs ad 0 L ++ fc_wl cs (fun _ => ad L.length) 0 [((3, ci, fl), fun _ => 0)])[i]?) = (fc_wl cs ad 0 L).map some := by
    have e := fc_rng (fc_wl cs ad 0 L) (fc_wl cs (fun _ => ad L.length) 0 [((3, ci, fl), fun _ => 0)])
    rw [hlen] at e
    exact e
  have hPc : va_P D vwCl (fc_wl cs (fun _ => ad L.length) 0 [((3, ci, fl), fun _ => 0)]) H := fun k q hk => hP (L.length + k) q (by
    rw [List.getElem?_append_right (by omega), hlen, Nat.add_sub_cancel_left]; exact hk)
  have hFc := va_free (wc := fc_wl cs (fun _ => ad L.length) 0 [((3, ci, fl), fun _ => 0)]) hD hS hg.2.2.2.2.2.2.2.1 [L.length] hC
  have hstk : (av.reverse ++ Value.ref L.length :: st).map (fc_v ad) = av.reverse ++ .ref (ad L.length) :: st.map (fc_v ad) := by
    rw [List.map_append, List.map_reverse, hav ad]; rfl
  rw [hstk]
  have hrun : va_Run g.1 g.2.1 g.2.2.1 g.2.2.2.1 g.2.2.2.2.1 g.2.2.2.2.2.1 g.2.2.2.2.2.2.1 g.2.2.2.2.2.2.2.1 g.2.2.2.2.2.2.2.2.1 g.2.2.2.2.2.2.2.2.2.1 H locs c n mc' ms' (F0 g.2.2.2.2.2.1 pc la (av.reverse ++ .ref (ad L.length) :: st.map (fc_v ad))) (st.map (fc_v ad)) (va_Qv (fun (_ : Unit) => True) (fun _ t => ∃ ad2 : Nat → Nat, ad2 0 = ad L.length ∧ va_P D vwCl (fc_wl cs ad2 0 Lr) t.heap ∧ va_D (va_A (fc_wl cs (fun _ => ad L.length) 0 [((3, ci, fl), fun _ => 0)]) H.size) (fc_wl cs ad2 0 Lr)) (va_A (fc_wl cs (fun _ => ad L.length) 0 [((3, ci, fl), fun _ => 0)]) H.size) (Value.ref (ad L.length) :: av).toArray) (va_A (fc_wl cs (fun _ => ad L.length) 0 [((3, ci, fl), fun _ => 0)]) H.size) := by
    rcases c1 with c1 | ⟨host, c1⟩
    · exact va_runI (Ts := fr_gw) (index := ix) (bytes := cc') (maxL := nL') (n := m) ⟨hg.1, hg.2.1, hg.2.2.1, hg.2.2.2.1, H5⟩ (hM g.2.1 D cs (ad L.length) H.size) ⟨callB_of m H5 (fr_good0 c4) rfl rfl rfl (H5 _ c3) (H5 _ c1) ⟨c5, c6, c7⟩ ⟨by rw [hg.2.2.2.2.2.2.2.2.2.1]; exact hfr, by rw [hg.2.2.2.2.2.2.2.2.2.2.1]; exact hlo⟩, c8, H5 _ c2⟩
        ⟨fun a U g mk q => ⟨q.1, q.2.1, q.2.2.1, fc_kk_same (s := U) rfl q.2.2.2⟩, fun U hU hW => ⟨rfl, by rw [hU], by rw [hU]; exact hPc, fc_kk_warm hW hg.2.2.2.2.2.1⟩⟩ rfl hm hl.1 rfl (lv_room (hcat ad)) d ⟨by rw [hg.2.2.2.2.2.2.2.2.2.2.2.1]; exact hcc, by rw [hg.2.2.2.2.2.2.2.2.2.2.2.2]; exact hss⟩
    · exact va_runIN (Ts := fr_gw) (index := ix) (host := host) (bytes := cc') (maxL := nL') (n := m) ⟨hg.1, hg.2.1, hg.2.2.1, hg.2.2.2.1, H5⟩ (hM g.2.1 D cs (ad L.length) H.size) ⟨va_cnB m H5 (fr_good0 c4) rfl rfl rfl (hg.2.2.2.2.2.1.1.2 _ c1) (H5 _ c3) ⟨c5, c6, c7⟩ ⟨by rw [hg.2.2.2.2.2.2.2.2.2.1]; exact hfr, by rw [hg.2.2.2.2.2.2.2.2.2.2.1]; exact hlo⟩, c8, H5 _ c2⟩
        ⟨fun a U g mk q => ⟨q.1, q.2.1, q.2.2.1, fc_kk_same (s := U) rfl q.2.2.2⟩, fun U hU hW => ⟨rfl, by rw [hU], by rw [hU]; exact hPc, fc_kk_warm hW hg.2.2.2.2.2.1⟩⟩ rfl hm hl.1 rfl (lv_room (hcat ad)) d ⟨by rw [hg.2.2.2.2.2.2.2.2.2.2.2.1]; exact hcc, by rw [hg.2.2.2.2.2.2.2.2.2.2.2.2]; exact hss⟩
  refine va_callv hrun hS (fun q _ h => hFc q h) hFc (fun u t H1 locs1 ht hvm hw hB hz1 hk1 hS1 => ?_)
  obtain ⟨ad2, ea, hP1, hD1⟩ := hB
  rw [ht] at hP1
  obtain ⟨qP, qD⟩ := va_join (wr := fc_wl cs ad 0 L) (w1 := fc_wl cs ad2 0 Lr) hP hD [L.length] (List.range L.length) hC hR (fc_nd _ List.nodup_range) (fun i hi hj => by
    have h2 := List.mem_range.mp hi
    have h3 : i = L.length := by simpa using hj
    omega) hk1 hFc hP1 hD1
  rw [fc_merge hL] at qP qD
  have ha : ∀ k, k < L.length + 1 → ad k = fc_mix ad ad2 L.length k := fun k hk => by
    by_cases h : k < L.length
    · simp [fc_mix, h]
    · have : k = L.length := by omega
      subst this
      simp [fc_mix, ea]
  have e4 := k (fc_mix ad ad2 L.length) H1 locs1 la qP qD hS1 (by rw [← ha 0 (by omega)]; exact e0) (by rw [← fc_ls_ad ha ls hls]; exact hl)
  rw [← fc_st_ad ha st hst] at e4
  exact e4
end FCC
/-- Arrays.fill over the cell that was made last -/
theorem fc_fill {g : fr_G} {D : va_G} {cs : Nat → ClassId} {A : Nat → Prop} {cc : ByteArray} {nL : Nat} {own : String} {fr lo mc ms h0 c n pc pn ix m k0 : Nat} {ls : List (Nat × Value)} {st : List Value} {L L1 L' : List fc_Ce} {f : Nat → Int32} {v : Int32} (hg : fc_ok g D cs A cc nL own fr lo mc ms) (hm : fr_ms own ix yJ7_fill_53178 cJ7_fill_53178 4 none 2) (hm9 : m < 9000) (hfr : 1 ≤ fr) (hlo : 8 + (4 + 11) + 0 ≤ lo) (hcc : c ≤ mc) (hss : n ≤ ms) (hcat : ∀ ad, ((st.map (fc_v ad)).map fun v => v.category).sum ≤ 8) (d : decode cc pc = .ok (.invokestatic ix, 3)) (hn : pc + 3 = pn) (hk : L.length = k0) (he1 : L ++ [((0, m, []), f)] = L1) (he : L ++ [((0, m, []), fun j => if j < m then v else f j)] = L') (k : fc_K g D cs A h0 nL c n pn ls st L') : fc_K g D cs A h0 nL c n pc ls (.int v :: .ref k0 :: st) L1 := by
  subst hn; subst hk; subst he1; subst he
  intro ad H locs la hP hD hS e0 hl
  have H5 := hg.2.2.2.2.1
  have ew : ∀ f : Nat → Int32, fc_wl cs ad 0 (L ++ [((0, m, []), f)]) = fc_wl cs ad 0 L ++ [(ad L.length, .inl (cs 0, m, .inl f))] := fun f => by
    rw [fc_wl_app, Nat.zero_add]
    rfl
  rw [ew] at hP hD
  have hlen : (fc_wl cs ad 0 L).length = L.length := fc_wl_len L 0
  have hC : [L.length].map (fun i => (fc_wl cs ad 0 L ++ [(ad L.length, .inl (cs 0, m, .inl f))])[i]?) = ([(ad L.length, .inl (cs 0, m, .inl f))] : va_W).map some := by
    show [(fc_wl cs ad 0 L ++ _)[L.length]?] = _
    rw [List.getElem?_append_right (by omega), hlen, Nat.sub_self]
    rfl
  have hR : (List.range L.length).map (fun i => (fc_wl cs ad 0 L ++ [(ad L.length, .inl (cs 0, m, .inl f))])[i]?) = (fc_wl cs ad 0 L).map some := by
    have e := fc_rng (fc_wl cs ad 0 L) [(ad L.length, .inl (cs 0, m, .inl f))]
    rw [hlen] at e
    exact e
  have hFc := va_free (wc := [(ad L.length, .inl (cs 0, m, .inl f))]) hD hS hg.2.2.2.2.2.2.2.1 [L.length] hC
  generalize hA' : va_A [(ad L.length, .inl (cs 0, m, .inl f))] H.size = A' at hFc
  have hA'0 : A' (ad L.length) := by rw [← hA']; exact Or.inl ⟨0, _, rfl⟩
  have hPc : va_P D vwCl [(ad L.length, .inl (cs 0, m, .inl f))] H := fun k q hk => hP (L.length + k) q (by
    rw [List.getElem?_append_right (by omega), hlen, Nat.add_sub_cancel_left]; exact hk)
  have hDc : ∀ σ : fr_St, va_D A' (fr_wd (D, cs, A', fun _ => ad L.length, [], [(0, m, [])]) σ) := fun σ => by
    refine ⟨fun i j p q hi hj _ => ?_, fun k q hq => ?_⟩
    · have h1 := (List.getElem?_eq_some_iff.mp hi).1
      have h2 := (List.getElem?_eq_some_iff.mp hj).1
      simp [fr_wd, fr_wl, fr_sh] at h1 h2
      omega
    · match k, hq with
      | 0, hq => cases hq; exact hA'0
      | k + 1, hq => simp [fr_wd, fr_wl, fr_sh] at hq
  obtain ⟨m1, m2, m4, m5, m6, m7, m8⟩ := hm
  have hM := mJ7_fill_53178 (S := [(0, m, [])]) 0 m rfl v g.2.1 (D, cs, A', fun _ => ad L.length, [], [(0, m, [])]) (fun _ => f) _ rfl hDc (zfill (fun _ => f) 0 m v hm9)
  have hrun := va_runS (H := H) (locs := locs) (cells := c) (slots := n) (g := F0 g.2.2.2.2.2.1 pc la (.int v :: .ref (ad L.length) :: st.map (fc_v ad))) (As := [.ref (ad L.length), .int v]) (rest := st.map (fc_v ad)) (Ts := fr_gw) (index := ix) (bytes := cJ7_fill_53178) (maxL := 4) (ret := none) (n := 2) ⟨hg.1, hg.2.1, hg.2.2.1, hg.2.2.2.1, H5⟩ hM ⟨callB_of 2 H5 (fr_good0 m5) rfl rfl rfl (H5 _ m4) (H5 _ m1) ⟨m6, m7, m8⟩ ⟨by rw [hg.2.2.2.2.2.2.2.2.2.1]; exact hfr, by rw [hg.2.2.2.2.2.2.2.2.2.2.1]; exact hlo⟩, H5 _ m2⟩
    ⟨fr_blind, fun U hU hW => ⟨rfl, by rw [hU]; exact hPc, fr_kk_warm (w := (D, cs, A', fun _ => ad L.length, [], [(0, m, [])])) hW hg.2.2.2.2.2.1.1⟩⟩ rfl rfl hl.1 rfl (lv_room (hcat ad)) d ⟨by rw [hg.2.2.2.2.2.2.2.2.2.2.2.1]; exact hcc, by rw [hg.2.2.2.2.2.2.2.2.2.2.2.2]; exact hss⟩ (below := g.2.2.2.2.2.2.2.1) (e := g.2.2.1) (meth := g.2.2.2.2.2.2.2.2.1)
  refine va_callv hrun hS (fun q _ h => hFc q h) hFc (fun u t H1 locs1 ht hvm hw hB hz1 hk1 hS1 => ?_)
  rw [ht] at hB
  have hP1 : va_P D vwCl [(ad L.length, .inl (cs 0, m, .inl (fun j => if j < m then v else f j)))] H1 := by
    have e : fr_wd (D, cs, A', fun _ => ad L.length, [], [(0, m, [])]) (fr_row (fun _ => f) 0 (fun j => if j < m then v else f j)) = [(ad L.length, .inl (cs 0, m, .inl (fun j => if j < m then v else f j)))] := rfl
    exact e ▸ hB
  have hD1 : va_D A' [(ad L.length, .inl (cs 0, m, .inl (fun j => if j < m then v else f j)))] := by
    have e : fr_wd (D, cs, A', fun _ => ad L.length, [], [(0, m, [])]) (fr_row (fun _ => f) 0 (fun j => if j < m then v else f j)) = [(ad L.length, .inl (cs 0, m, .inl (fun j => if j < m then v else f j)))] := rfl
    exact e ▸ hDc _
  subst hA'
  obtain ⟨qP, qD⟩ := va_join (wr := fc_wl cs ad 0 L) hP hD [L.length] (List.range L.length) hC hR (fc_nd _ List.nodup_range) (fun i hi hj => by
    have h2 := List.mem_range.mp hi
    have h3 : i = L.length := by simpa using hj
    omega) hk1 hFc hP1 hD1
  rw [← ew] at qP qD
  exact k ad H1 locs1 la qP qD hS1 e0 hl
