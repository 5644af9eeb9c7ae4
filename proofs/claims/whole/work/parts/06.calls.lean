/-! fields, arrays, calls, ends -/
theorem fr_wd_get {w : fr_W} {S : List fr_Sh} {σ : fr_St} {q : Nat} {x : fr_Sh} (hS : fr_sh w = S) (h : S[q]? = some x) : (fr_wd w σ)[q]? = some (fr_ad w q, fr_ce w.2.1 (fr_ad w) (σ q) x) := by
  subst hS
  unfold fr_wd
  have hl : q < (fr_sh w).length := (List.getElem?_eq_some_iff.mp h).1
  rw [List.getElem?_append_left (by rw [fr_wl_len]; exact hl)]
  have e := fr_wl_get (cs := w.2.1) (ad := fr_ad w) (σ := σ) (fr_sh w) 0 q h
  rw [Nat.zero_add] at e
  exact e
theorem fr_wd_set {w : fr_W} {S : List fr_Sh} {σ : fr_St} {q : Nat} {x : fr_Sh} {f : Nat → Int32} (hS : fr_sh w = S) (h : S[q]? = some x) : (fr_wd w σ).set q (fr_ad w q, fr_ce w.2.1 (fr_ad w) f x) = fr_wd w (fr_row σ q f) := by
  subst hS
  unfold fr_wd
  have hl : q < (fr_sh w).length := (List.getElem?_eq_some_iff.mp h).1
  rw [List.set_append_left _ _ (by rw [fr_wl_len]; exact hl)]
  have e := fr_wl_set (cs := w.2.1) (ad := fr_ad w) (σ := σ) (f := f) (fr_sh w) 0 q h
  rw [Nat.zero_add] at e
  rw [e]
def fr_fo (own : String) (ix ci j : Nat) : Prop := ∃ (C : String) (T : u_T) (N : Nat), vwCl[ci]? = some (C, T, N) ∧ j < N ∧ (∀ x ∈ u_ws C T N, x ∈ fr_gw) ∧ Cond.fieldLink own ix (T j).1 (T j).2.1 (T j).2.2.1 ∈ fr_gw
def fr_fp (own : String) (ix ci j : Nat) (ty : FieldType) : Prop := ∃ (C : String) (T : u_T) (N : Nat) (ty0 : Nat → FieldType), vwCl[ci]? = some (C, T, N) ∧ j < N ∧ (∀ x ∈ u_ws C T N, x ∈ fr_gw) ∧ Cond.fieldLink own ix (T j).1 (T j).2.1 (T j).2.2.1 ∈ fr_gw ∧ (∀ k, k < N → parseFieldDescriptor (T k).2.2.1 = some (ty0 k)) ∧ (∀ a, a < N → ∀ b, b < N → a ≠ b → (T a).2.1 ≠ (T b).2.1) ∧ (T j).2.2.2 = false ∧ parseFieldDescriptor (T j).2.2.1 = some ty
section FRF
variable {g : fr_G} {w : fr_W} {S : List fr_Sh} {cc : ByteArray} {nL : Nat} {own : String} {fr lo : Nat} {τ : Type} {F F1 F2 : Option τ} {P : τ → Prop} {pc n : Nat} {ls ls' : List (Nat × Value)} {st : List Value} {σ : fr_St}
theorem fr_geti (hg : fr_ok g w S cc nL own fr lo) {ix ci j q : Nat} {fl : List (Option Nat)} (ho : fr_fo own ix ci j) (hs : S[q]? = some (3, ci, fl)) (hf : fl[j]? = some none) (d : decode cc pc = .ok (.getfield ix, 3)) (hn : pc + 3 = n) (k : fr_V g w nL F P n ls (.int (σ q j) :: st) σ) : fr_V g w nL F P pc ls (.ref (fr_ad w q) :: st) σ := by
  subst hn
  obtain ⟨C, T, N, h1, h2, h3, h4⟩ := ho
  intro t a b H locs la hP hS hl
  have e := fr_fl_i (ad := fr_ad w) (f := σ q) fl 0 j hf
  rw [Nat.zero_add] at e
  exact va_get hg.1 hg.2.1 hg.2.2.2.2.1 h3 hg.2.2.2.1 hg.2.2.2.2.2.1.1 hP q (fr_wd_get hg.2.2.2.2.2.2.1 hs) h1 j h2 (hg.2.2.2.2.1 _ h4) (fun _ h => h) e d (k t a b H locs la hP hS hl)
theorem fr_getr (hg : fr_ok g w S cc nL own fr lo) {ix ci j q q' : Nat} {fl : List (Option Nat)} (ho : fr_fo own ix ci j) (hs : S[q]? = some (3, ci, fl)) (hf : fl[j]? = some (some q')) (d : decode cc pc = .ok (.getfield ix, 3)) (hn : pc + 3 = n) (k : fr_V g w nL F P n ls (.ref (fr_ad w q') :: st) σ) : fr_V g w nL F P pc ls (.ref (fr_ad w q) :: st) σ := by
  subst hn
  obtain ⟨C, T, N, h1, h2, h3, h4⟩ := ho
  intro t a b H locs la hP hS hl
  exact va_get hg.1 hg.2.1 hg.2.2.2.2.1 h3 hg.2.2.2.1 hg.2.2.2.2.2.1.1 hP q (fr_wd_get hg.2.2.2.2.2.2.1 hs) h1 j h2 (hg.2.2.2.2.1 _ h4) (fun _ h => h) (fr_fl_r (ad := fr_ad w) (f := σ q) fl 0 j hf) d (k t a b H locs la hP hS hl)
theorem fr_puti (hg : fr_ok g w S cc nL own fr lo) {ix ci j q : Nat} {ty : FieldType} {fl : List (Option Nat)} {v : Int32} (ho : fr_fp own ix ci j ty) (hs : S[q]? = some (3, ci, fl)) (hf : fl[j]? = some none) (hv : narrow ty (.int v) = .int v) (ht : fits ty (.int v) = true) (d : decode cc pc = .ok (.putfield ix, 3)) (hn : pc + 3 = n) (k : fr_V g w nL F P n ls st (fr_put σ q j v)) : fr_V g w nL F P pc ls (.int v :: .ref (fr_ad w q) :: st) σ := by
  subst hn
  obtain ⟨C, T, N, ty0, h1, h2, h3, h4, h5, h6, h7, h8⟩ := ho
  intro t a b H locs la hP hS hl
  have hlen : j < (fr_fl (fr_ad w) (σ q) 0 fl).length := by rw [fr_fl_len]; exact (List.getElem?_eq_some_iff.mp hf).1
  refine va_put hg.1 hg.2.1 hg.2.2.2.2.1 h3 ty0 h5 h6 hg.2.2.2.1 hg.2.2.2.2.2.1.1 hP (hg.2.2.2.2.2.2.2.1 σ) hS q (fr_wd_get hg.2.2.2.2.2.2.1 hs) h1 j h2 (hg.2.2.2.2.1 _ h4) (fun _ h => h) h7 h8 hv ht hlen d (fun H1 locs1 q1 q2 q3 => k t a b H1 locs1 la ?_ q3 hl)
  have e := fr_fl_set (ad := fr_ad w) (f := σ q) (x := v) fl 0 j hf
  rw [Nat.zero_add] at e
  rw [e] at q1
  have e2 := fr_wd_set (σ := σ) (f := upd (σ q) j v) hg.2.2.2.2.2.2.1 hs
  exact e2 ▸ q1
theorem fr_in_vp {i : Int32} {m : Nat} (h : 0 ≤ i.toInt ∧ i.toInt < m) : vp_in i m := vp_in_iff.mpr h
theorem fr_iaload (hg : fr_ok g w S cc nL own fr lo) {m q : Nat} {l : List (Option Nat)} {i : Int32} {G : Int32 → Option τ} (hs : S[q]? = some (0, m, l)) (d : decode cc pc = .ok (.iaload, 1)) (hn : pc + 1 = n) (k : ∀ x, fr_V g w nL (G x) P n ls (.int x :: st) σ) : fr_V g w nL ((fr_al m σ q i).bind G) P pc ls (.int i :: .ref (fr_ad w q) :: st) σ := by
  subst hn
  intro t a b H locs la hP hS hl
  by_cases hi : 0 ≤ i.toInt ∧ i.toInt < m
  · exact va_iald hg.1 hg.2.1 hg.2.2.2.2.2.1.1 hP q 0 (fr_wd_get hg.2.2.2.2.2.2.1 hs) rfl (fr_in_vp hi) d (k _ t (by simpa only [fr_al, if_pos hi, Option.bind_some] using a) b H locs la hP hS hl)
  · simp only [fr_al, if_neg hi, Option.bind_none] at a
    cases a
theorem fr_baload (hg : fr_ok g w S cc nL own fr lo) {m q : Nat} {l : List (Option Nat)} {i : Int32} {G : Int32 → Option τ} (hs : S[q]? = some (1, m, l)) (d : decode cc pc = .ok (.baload, 1)) (hn : pc + 1 = n) (k : ∀ x, fr_V g w nL (G x) P n ls (.int x :: st) σ) : fr_V g w nL ((fr_al m σ q i).bind G) P pc ls (.int i :: .ref (fr_ad w q) :: st) σ := by
  subst hn
  intro t a b H locs la hP hS hl
  by_cases hi : 0 ≤ i.toInt ∧ i.toInt < m
  · exact va_zald hg.1 hg.2.1 hg.2.2.2.2.2.1.1 hP q 1 (fr_wd_get hg.2.2.2.2.2.2.1 hs) rfl (fr_in_vp hi) d (k _ t (by simpa only [fr_al, if_pos hi, Option.bind_some] using a) b H locs la hP hS hl)
  · simp only [fr_al, if_neg hi, Option.bind_none] at a
    cases a
theorem fr_iastore (hg : fr_ok g w S cc nL own fr lo) {m q : Nat} {l : List (Option Nat)} {i x : Int32} {G : fr_St → Option τ} (hs : S[q]? = some (0, m, l)) (d : decode cc pc = .ok (.iastore, 1)) (hn : pc + 1 = n) (k : ∀ σ, fr_V g w nL (G σ) P n ls st σ) : fr_V g w nL ((fr_as m σ q i x).bind G) P pc ls (.int x :: .int i :: .ref (fr_ad w q) :: st) σ := by
  subst hn
  intro t a b H locs la hP hS hl
  by_cases hi : 0 ≤ i.toInt ∧ i.toInt < m
  · refine va_iast hg.1 hg.2.1 hg.2.2.2.2.2.1.1 hP (hg.2.2.2.2.2.2.2.1 σ) hS q 0 (fr_wd_get hg.2.2.2.2.2.2.1 hs) rfl (fr_in_vp hi) d (fun H1 locs1 q1 q2 q3 => k _ t (by simpa only [fr_as, if_pos hi, Option.bind_some] using a) b H1 locs1 la ?_ q3 hl)
    have e2 := fr_wd_set (σ := σ) (f := upd (σ q) i.toNatClampNeg x) hg.2.2.2.2.2.2.1 hs
    exact e2 ▸ q1
  · simp only [fr_as, if_neg hi, Option.bind_none] at a
    cases a
theorem fr_bastore (hg : fr_ok g w S cc nL own fr lo) {m q : Nat} {l : List (Option Nat)} {i x : Int32} {G : fr_St → Option τ} (hs : S[q]? = some (1, m, l)) (hx : vp_nar .boolean x = x) (d : decode cc pc = .ok (.bastore, 1)) (hn : pc + 1 = n) (k : ∀ σ, fr_V g w nL (G σ) P n ls st σ) : fr_V g w nL ((fr_as m σ q i x).bind G) P pc ls (.int x :: .int i :: .ref (fr_ad w q) :: st) σ := by
  subst hn
  intro t a b H locs la hP hS hl
  by_cases hi : 0 ≤ i.toInt ∧ i.toInt < m
  · refine va_zast hg.1 hg.2.1 hg.2.2.2.2.2.1.1 hP (hg.2.2.2.2.2.2.2.1 σ) hS q 1 (fr_wd_get hg.2.2.2.2.2.2.1 hs) rfl (fr_in_vp hi) d (fun H1 locs1 q1 q2 q3 => k _ t (by simpa only [fr_as, if_pos hi, Option.bind_some] using a) b H1 locs1 la ?_ q3 hl)
    rw [hx] at q1
    have e2 := fr_wd_set (σ := σ) (f := upd (σ q) i.toNatClampNeg x) hg.2.2.2.2.2.2.1 hs
    exact e2 ▸ q1
  · simp only [fr_as, if_neg hi, Option.bind_none] at a
    cases a
theorem fr_aaload (hg : fr_ok g w S cc nL own fr lo) {m q base : Nat} {l : List (Option Nat)} {i : Int32} {G : Nat → Option τ} (hs : S[q]? = some (2, m, l)) (hb : ∀ j, j < m → l.getD j none = some (base + j)) (d : decode cc pc = .ok (.aaload, 1)) (hn : pc + 1 = n) (k : ∀ x, x < m → fr_V g w nL (G x) P n ls (.ref (fr_ad w (base + x)) :: st) σ) : fr_V g w nL ((fr_ar m i).bind G) P pc ls (.int i :: .ref (fr_ad w q) :: st) σ := by
  subst hn
  intro t a b H locs la hP hS hl
  by_cases hi : 0 ≤ i.toInt ∧ i.toInt < m
  · have hlt : i.toNatClampNeg < m := by
      have h1 := hi.2
      have h2 : ((i.toNatClampNeg : Nat) : Int) = i.toInt := Int.toNat_of_nonneg hi.1
      omega
    have hk := k i.toNatClampNeg hlt t (by simpa only [fr_ar, if_pos hi, Option.bind_some] using a) b H locs la hP hS hl
    refine va_aldq hg.1 hg.2.1 hg.2.2.2.2.2.1.1 hP q 2 (fr_wd_get hg.2.2.2.2.2.2.1 hs) rfl (fr_in_vp hi) d ?_
    rw [hb _ hlt]
    exact hk
  · simp only [fr_ar, if_neg hi, Option.bind_none] at a
    cases a
theorem fr_alen (hg : fr_ok g w S cc nL own fr lo) {m q : Nat} {l : List (Option Nat)} {v : Int32} (hs : S[q]? = some (0, m, l)) (hv : Int32.ofNat m = v) (d : decode cc pc = .ok (.arraylength, 1)) (hn : pc + 1 = n) (k : fr_V g w nL F P n ls (.int v :: st) σ) : fr_V g w nL F P pc ls (.ref (fr_ad w q) :: st) σ := by
  subst hn
  intro t a b H locs la hP hS hl
  exact va_alen hg.1 hg.2.1 hg.2.2.2.2.2.1.1 hP q 0 (fr_wd_get hg.2.2.2.2.2.2.1 hs) rfl hv d (k t a b H locs la hP hS hl)
def fr_mx (own : String) (ix : Nat) (y : MethodName) (code : ByteArray) : Prop := Cond.methodLink own ix y ∈ fr_gw ∧ Cond.static y ∈ fr_gw ∧ Cond.initialized "java/lang/Math" ∈ fr_gw ∧ Cond.code y code 2 (some .int) ∈ fr_gw
theorem fr_max (hg : fr_ok g w S cc nL own fr lo) {ix : Nat} {x y : Int32} (hm : fr_mx own ix Lib.Math.max.name Lib.Math.max.code) (hf : 1 ≤ fr) (hlo : (st.map fun v => v.category).sum + 13 ≤ lo) (d : decode cc pc = .ok (.invokestatic ix, 3)) (hn : pc + 3 = n) (k : fr_V g w nL F P n ls (.int (if x < y then y else x) :: st) σ) : fr_V g w nL F P pc ls (.int y :: .int x :: st) σ := by
  subst hn
  intro t a b H locs la hP hS hl
  have H5 := hg.2.2.2.2.1
  exact va_mmax hg.1 hg.2.1 (by rw [hl.1]; exact hg.2.2.1) hg.2.2.2.1 (H5 _ hm.1) (H5 _ hm.2.1) (H5 _ hm.2.2.1) (H5 _ hm.2.2.2) (by rw [hg.2.2.2.2.2.2.2.2.2.1]; exact hf) (by rw [hg.2.2.2.2.2.2.2.2.2.2.1]; exact hlo) hg.2.2.2.2.2.2.2.2.2.2.2.1 hg.2.2.2.2.2.2.2.2.2.2.2.2 d (k t a b H locs la hP hS hl)
theorem fr_min (hg : fr_ok g w S cc nL own fr lo) {ix : Nat} {x y : Int32} (hm : fr_mx own ix Lib.Math.min.name Lib.Math.min.code) (hf : 1 ≤ fr) (hlo : (st.map fun v => v.category).sum + 13 ≤ lo) (d : decode cc pc = .ok (.invokestatic ix, 3)) (hn : pc + 3 = n) (k : fr_V g w nL F P n ls (.int (if y < x then y else x) :: st) σ) : fr_V g w nL F P pc ls (.int y :: .int x :: st) σ := by
  subst hn
  intro t a b H locs la hP hS hl
  have H5 := hg.2.2.2.2.1
  exact va_mmin hg.1 hg.2.1 (by rw [hl.1]; exact hg.2.2.1) hg.2.2.2.1 (H5 _ hm.1) (H5 _ hm.2.1) (H5 _ hm.2.2.1) (H5 _ hm.2.2.2) (by rw [hg.2.2.2.2.2.2.2.2.2.1]; exact hf) (by rw [hg.2.2.2.2.2.2.2.2.2.2.1]; exact hlo) hg.2.2.2.2.2.2.2.2.2.2.2.1 hg.2.2.2.2.2.2.2.2.2.2.2.2 d (k t a b H locs la hP hS hl)
def fr_mc (own : String) (ix : Nat) : Prop := Cond.methodLink own ix arraycopyName ∈ fr_gw ∧ Cond.native arraycopyName ∈ fr_gw ∧ Cond.static arraycopyName ∈ fr_gw ∧ Cond.initialized "java/lang/System" ∈ fr_gw
theorem fr_nn {i : Int32} (h : 0 ≤ i.toInt) : ¬ i < 0 := by
  intro hc
  have := Int32.lt_iff_toInt_lt.mp hc
  simp at this
  omega
theorem fr_copy (hg : fr_ok g w S cc nL own fr lo) {ix q0 q1 m0 m1 : Nat} {l0 l1 : List (Option Nat)} {sp dp m : Int32} {G : fr_St → Option τ} (hm : fr_mc own ix) (hs0 : S[q0]? = some (0, m0, l0)) (hs1 : S[q1]? = some (0, m1, l1)) (hf : 1 ≤ fr) (hlo : (st.map fun v => v.category).sum + (nativeFrameWords "java/lang/System" "arraycopy" 5 + 11) ≤ lo) (d : decode cc pc = .ok (.invokestatic ix, 3)) (hn : pc + 3 = n) (k : ∀ σ, fr_V g w nL (G σ) P n ls st σ) : fr_V g w nL ((fr_cp m0 m1 σ q0 sp q1 dp m).bind G) P pc ls (.int m :: .int dp :: .ref (fr_ad w q1) :: .int sp :: .ref (fr_ad w q0) :: st) σ := by
  subst hn
  intro t a b H locs la hP hS hl
  have H5 := hg.2.2.2.2.1
  by_cases hi : 0 ≤ sp.toInt ∧ 0 ≤ dp.toInt ∧ 0 ≤ m.toInt ∧ sp.toInt + m.toInt ≤ m0 ∧ dp.toInt + m.toInt ≤ m1
  · obtain ⟨i1, i2, i3, i4, i5⟩ := id hi
    have e1 : ((sp.toNatClampNeg : Nat) : Int) = sp.toInt := Int.toNat_of_nonneg i1
    have e2 : ((dp.toNatClampNeg : Nat) : Int) = dp.toInt := Int.toNat_of_nonneg i2
    have e3 : ((m.toNatClampNeg : Nat) : Int) = m.toInt := Int.toNat_of_nonneg i3
    refine va_copyi hg.1 hg.2.1 (by rw [hl.1]; exact hg.2.2.1) hg.2.2.2.1 (H5 _ hm.1) (H5 _ hm.2.1) (H5 _ hm.2.2.1) (H5 _ hm.2.2.2) hg.2.2.2.2.2.1.1 hP (hg.2.2.2.2.2.2.2.1 σ) hS q0 q1 0 0 (fr_wd_get hg.2.2.2.2.2.2.1 hs0) (fr_wd_get hg.2.2.2.2.2.2.1 hs1) rfl rfl rfl (fr_nn i1) (fr_nn i2) (fr_nn i3) (by omega) (by omega) (fun _ _ => rfl) (by rw [hg.2.2.2.2.2.2.2.2.2.1]; exact hf) (by rw [hg.2.2.2.2.2.2.2.2.2.2.1]; exact hlo) d (fun H1 locs1 q1' q2 q3 => k _ t (by simpa only [fr_cp, if_pos hi, Option.bind_some] using a) b H1 locs1 la ?_ q3 hl)
    have e2 := fr_wd_set (σ := σ) (f := va_cpy (σ q0) (σ q1) sp.toNatClampNeg dp.toNatClampNeg m.toNatClampNeg) hg.2.2.2.2.2.2.1 hs1
    exact e2 ▸ q1'
  · simp only [fr_cp, if_neg hi, Option.bind_none] at a
    cases a
end FRF
/-! contracts -/
def fr_rm_ (a b : Nat) : Room := { frames := a, cells := 0, slots := 0, locals := b }
def fr_Pc (w : fr_W) (σ : fr_St) (av : List Value) : Array Value → State → Prop := va_Pc av (fun U => va_P w.1 vwCl (fr_wd w σ) U.heap ∧ fr_kk w U)
theorem fr_blind {w : fr_W} {σ : fr_St} {av : List Value} : FrameBlind (fr_Pc w σ av) := fun a U g mk h => ⟨h.1, h.2.1, fr_kk_same (s := U) rfl h.2.2⟩
def fr_MI2 (y : MethodName) (cc : ByteArray) (nL : Nat) (rt : FieldType) (fr lo : Nat) (S : List fr_Sh) (av : fr_W → List Value) (f : fr_St → Option (Int32 × fr_St)) : Prop :=
  ∀ (l : Launch) (w : fr_W) (σ : fr_St) (r : Int32) (σ' : fr_St), fr_sh w = S → (∀ σ, va_D (fr_A w) (fr_wd w σ)) → f σ = some (r, σ') → Met l y (.code y cc nL (some rt) :: fr_gw) (fr_rm_ fr lo) (fr_Pc w σ (av w)) (va_Qi (fun x (_ : Unit) => x = r) (fun _ t => va_P w.1 vwCl (fr_wd w σ') t.heap) (fr_A w)) 0 0 (fr_A w)
def fr_ML2 (y : MethodName) (cc : ByteArray) (nL : Nat) (fr lo : Nat) (S : List fr_Sh) (av : fr_W → List Value) (f : fr_St → Option (Int64 × fr_St)) : Prop :=
  ∀ (l : Launch) (w : fr_W) (σ : fr_St) (r : Int64) (σ' : fr_St), fr_sh w = S → (∀ σ, va_D (fr_A w) (fr_wd w σ)) → f σ = some (r, σ') → Met l y (.code y cc nL (some .long) :: fr_gw) (fr_rm_ fr lo) (fr_Pc w σ (av w)) (va_Ql (fun x (_ : Unit) => x = r) (fun _ t => va_P w.1 vwCl (fr_wd w σ') t.heap) (fr_A w)) 0 0 (fr_A w)
def fr_MV2 (y : MethodName) (cc : ByteArray) (nL : Nat) (fr lo : Nat) (S : List fr_Sh) (av : fr_W → List Value) (f : fr_St → Option fr_St) : Prop :=
  ∀ (l : Launch) (w : fr_W) (σ : fr_St) (σ' : fr_St), fr_sh w = S → (∀ σ, va_D (fr_A w) (fr_wd w σ)) → f σ = some σ' → Met l y (.code y cc nL none :: fr_gw) (fr_rm_ fr lo) (fr_Pc w σ (av w)) (va_Qv (fun (_ : Unit) => True) (fun _ t => va_P w.1 vwCl (fr_wd w σ') t.heap) (fr_A w)) 0 0 (fr_A w)
def fr_MR2 (y : MethodName) (cc : ByteArray) (nL : Nat) (rt : FieldType) (fr lo : Nat) (S : List fr_Sh) (av : fr_W → List Value) (ps : Nat → Nat) (f : fr_St → Option (Nat × fr_St)) : Prop :=
  ∀ (l : Launch) (w : fr_W) (σ : fr_St) (r : Nat) (σ' : fr_St), fr_sh w = S → (∀ σ, va_D (fr_A w) (fr_wd w σ)) → f σ = some (r, σ') → Met l y (.code y cc nL (some rt) :: fr_gw) (fr_rm_ fr lo) (fr_Pc w σ (av w)) (va_Qr (fun (_ : Unit) => True) (fun _ a t => a = fr_ad w (ps r) ∧ va_P w.1 vwCl (fr_wd w σ') t.heap) (fr_A w)) 0 0 (fr_A w)
def fr_MI1 (y : MethodName) (cc : ByteArray) (nL : Nat) (rt : FieldType) (fr lo : Nat) (S : List fr_Sh) (av : fr_W → List Value) (f : fr_St → Option Int32) : Prop := fr_MI2 y cc nL rt fr lo S av (fun σ => (f σ).map (fun r => (r, σ)))
def fr_MI0 (y : MethodName) (cc : ByteArray) (nL : Nat) (rt : FieldType) (fr lo : Nat) (S : List fr_Sh) (av : fr_W → List Value) (f : fr_St → Int32) : Prop := fr_MI2 y cc nL rt fr lo S av (fun σ => some (f σ, σ))
def fr_ML1 (y : MethodName) (cc : ByteArray) (nL : Nat) (fr lo : Nat) (S : List fr_Sh) (av : fr_W → List Value) (f : fr_St → Option Int64) : Prop := fr_ML2 y cc nL fr lo S av (fun σ => (f σ).map (fun r => (r, σ)))
def fr_ML0 (y : MethodName) (cc : ByteArray) (nL : Nat) (fr lo : Nat) (S : List fr_Sh) (av : fr_W → List Value) (f : fr_St → Int64) : Prop := fr_ML2 y cc nL fr lo S av (fun σ => some (f σ, σ))
/-! words of calls -/
def fr_mv (own : String) (ix : Nat) (y : MethodName) (cc : ByteArray) (nL : Nat) (rt : Option FieldType) (m : Nat) : Prop :=
  Cond.methodLink own ix y ∈ fr_gw ∧ Cond.instanceMethod y ∈ fr_gw ∧ Cond.selects y.cls y y ∈ fr_gw ∧ Cond.initialized y.cls ∈ fr_gw ∧ Cond.code y cc nL rt ∈ fr_gw ∧ y.cls ≠ "java/lang/invoke/MethodHandle" ∧ y.cls ≠ "java/lang/invoke/VarHandle" ∧ (parseMethodDescriptor y.desc).map (fun d => d.parameters.length) = some m
def fr_ms (own : String) (ix : Nat) (y : MethodName) (cc : ByteArray) (nL : Nat) (rt : Option FieldType) (m : Nat) : Prop :=
  Cond.methodLink own ix y ∈ fr_gw ∧ Cond.static y ∈ fr_gw ∧ Cond.initialized y.cls ∈ fr_gw ∧ Cond.code y cc nL rt ∈ fr_gw ∧ y.cls ≠ "java/lang/invoke/MethodHandle" ∧ y.cls ≠ "java/lang/invoke/VarHandle" ∧ (parseMethodDescriptor y.desc).map (fun d => d.parameters.length) = some m
def fr_mn (own : String) (ix : Nat) (y : MethodName) (host : String) (cc : ByteArray) (nL : Nat) (rt : Option FieldType) (m : Nat) : Prop :=
  (own, ix, y, host) ∈ fr_nl ∧ Cond.static y ∈ fr_gw ∧ Cond.initialized y.cls ∈ fr_gw ∧ Cond.code y cc nL rt ∈ fr_gw ∧ y.cls ≠ "java/lang/invoke/MethodHandle" ∧ y.cls ≠ "java/lang/invoke/VarHandle" ∧ (parseMethodDescriptor y.desc).map (fun d => d.parameters.length) = some m
theorem fr_good0 {x : Cond} (h : x ∈ fr_gw) : GoodIn fr_gw (x :: fr_gw) := fun z hz => by
  have hz : z ∈ fr_gw := by
    rcases List.mem_cons.mp hz with e | e
    · rw [e]; exact h
    · exact e
  exact ⟨hz, good_of_word (List.mem_filter.mp hz).2⟩
/-- a call stands ready: what its contract says, it does -/
def fr_cr (g : fr_G) (w : fr_W) (nL : Nat) (y : MethodName) (cc' : ByteArray) (nL' : Nat) (rt : Option FieldType) (fr' lo' : Nat) (av : List Value) (pc : Nat) (stk st : List Value) (σ : fr_St) : Prop :=
  ∀ (H : Heap) (locs : List Loc) (la : Array Slot) (Qc : Array Value → State → Outcome → State → Prop) (free : Addr → Prop), va_P w.1 vwCl (fr_wd w σ) H → la.size = nL →
    Met g.2.1 y (.code y cc' nL' rt :: fr_gw) (fr_rm_ fr' lo') (fr_Pc w σ av) Qc 0 0 free →
    va_Run g.1 g.2.1 g.2.2.1 g.2.2.2.1 g.2.2.2.2.1 g.2.2.2.2.2.1 g.2.2.2.2.2.2.1 g.2.2.2.2.2.2.2.1 g.2.2.2.2.2.2.2.2.1 g.2.2.2.2.2.2.2.2.2.1 H locs g.2.2.2.2.2.2.2.2.2.2.1 g.2.2.2.2.2.2.2.2.2.2.2.1 0 0 (F0 g.2.2.2.2.2.1 pc la stk) st (Qc av.toArray) free
section FRC
variable {g : fr_G} {w : fr_W} {S : List fr_Sh} {cc cc' : ByteArray} {nL nL' : Nat} {own : String} {fr lo fr' lo' : Nat} {τ : Type} {F F1 F2 : Option τ} {P : τ → Prop} {pc n : Nat} {ls ls' : List (Nat × Value)} {st stk : List Value} {σ : fr_St} {y : MethodName} {rt : Option FieldType} {rty : FieldType} {av : fr_W → List Value}
theorem fr_crV (hg : fr_ok g w S cc nL own fr lo) {ix m q ci : Nat} {fl : List (Option Nat)} {As : List Value} (hm : fr_mv own ix y cc' nL' rt m) (hs : S[q]? = some (3, ci, fl)) (hc : ∃ (T : u_T) (N : Nat), vwCl[ci]? = some (y.cls, T, N)) (hn : As.length = m) (hfr : fr' + 1 ≤ fr) (hlo : 8 + (nL' + 11) + lo' ≤ lo) (hw : (st.map fun v => v.category).sum ≤ 8) (d : decode cc pc = .ok (.invokevirtual ix, 3)) (hk : As.reverse ++ .ref (fr_ad w q) :: st = stk) :
    fr_cr g w nL y cc' nL' rt fr' lo' (.ref (fr_ad w q) :: As) pc stk st σ := by
  intro H locs la Qc free hP hl hM
  obtain ⟨T, N, hc⟩ := hc
  subst hk
  have H5 := hg.2.2.2.2.1
  obtain ⟨m1, m2, m3, m4, m5, m6, m7, m8⟩ := hm
  exact va_runV (Ts := fr_gw) (C := y.cls) (index := ix) (bytes := cc') (maxL := nL') (ret := rt) (n := m) ⟨hg.1, hg.2.1, hg.2.2.1, hg.2.2.2.1, H5⟩ hM ⟨callB_of m H5 (fr_good0 m5) rfl rfl rfl (H5 _ m4) (H5 _ m1) ⟨m6, m7, m8⟩ ⟨by rw [hg.2.2.2.2.2.2.2.2.2.1]; exact hfr, by rw [hg.2.2.2.2.2.2.2.2.2.2.1]; exact hlo⟩, H5 _ m2, H5 _ m3⟩
    ⟨fr_blind, va_recv hg.2.2.2.2.2.1.1 hP hc (fr_wd_get hg.2.2.2.2.2.2.1 hs), fun U hU hW => ⟨rfl, by rw [hU]; exact hP, fr_kk_warm hW hg.2.2.2.2.2.1⟩⟩ rfl hn hl rfl (lv_room hw) d ⟨hg.2.2.2.2.2.2.2.2.2.2.2.1, hg.2.2.2.2.2.2.2.2.2.2.2.2⟩
theorem fr_crS (hg : fr_ok g w S cc nL own fr lo) {ix m : Nat} {As : List Value} (hm : fr_ms own ix y cc' nL' rt m) (hn : As.length = m) (hfr : fr' + 1 ≤ fr) (hlo : 8 + (nL' + 11) + lo' ≤ lo) (hw : (st.map fun v => v.category).sum ≤ 8) (d : decode cc pc = .ok (.invokestatic ix, 3)) (hk : As.reverse ++ st = stk) :
    fr_cr g w nL y cc' nL' rt fr' lo' As pc stk st σ := by
  intro H locs la Qc free hP hl hM
  subst hk
  have H5 := hg.2.2.2.2.1
  obtain ⟨m1, m2, m4, m5, m6, m7, m8⟩ := hm
  exact va_runS (Ts := fr_gw) (index := ix) (bytes := cc') (maxL := nL') (ret := rt) (n := m) ⟨hg.1, hg.2.1, hg.2.2.1, hg.2.2.2.1, H5⟩ hM ⟨callB_of m H5 (fr_good0 m5) rfl rfl rfl (H5 _ m4) (H5 _ m1) ⟨m6, m7, m8⟩ ⟨by rw [hg.2.2.2.2.2.2.2.2.2.1]; exact hfr, by rw [hg.2.2.2.2.2.2.2.2.2.2.1]; exact hlo⟩, H5 _ m2⟩
    ⟨fr_blind, fun U hU hW => ⟨rfl, by rw [hU]; exact hP, fr_kk_warm hW hg.2.2.2.2.2.1⟩⟩ rfl hn hl rfl (lv_room hw) d ⟨hg.2.2.2.2.2.2.2.2.2.2.2.1, hg.2.2.2.2.2.2.2.2.2.2.2.2⟩
theorem fr_crN (hg : fr_ok g w S cc nL own fr lo) {ix m : Nat} {host : String} {As : List Value} (hm : fr_mn own ix y host cc' nL' rt m) (hn : As.length = m) (hfr : fr' + 1 ≤ fr) (hlo : 8 + (nL' + 11) + lo' ≤ lo) (hw : (st.map fun v => v.category).sum ≤ 8) (d : decode cc pc = .ok (.invokestatic ix, 3)) (hk : As.reverse ++ st = stk) :
    fr_cr g w nL y cc' nL' rt fr' lo' As pc stk st σ := by
  intro H locs la Qc free hP hl hM
  subst hk
  have H5 := hg.2.2.2.2.1
  obtain ⟨m1, m2, m4, m5, m6, m7, m8⟩ := hm
  exact va_runSN (Ts := fr_gw) (index := ix) (host := host) (bytes := cc') (maxL := nL') (ret := rt) (n := m) ⟨hg.1, hg.2.1, hg.2.2.1, hg.2.2.2.1, H5⟩ hM ⟨va_cnB m H5 (fr_good0 m5) rfl rfl rfl (hg.2.2.2.2.2.1.2 _ m1) (H5 _ m4) ⟨m6, m7, m8⟩ ⟨by rw [hg.2.2.2.2.2.2.2.2.2.1]; exact hfr, by rw [hg.2.2.2.2.2.2.2.2.2.2.1]; exact hlo⟩, H5 _ m2, trivial⟩
    ⟨fr_blind, fun U hU hW => ⟨rfl, by rw [hU]; exact hP, fr_kk_warm hW hg.2.2.2.2.2.1⟩⟩ rfl hn hl rfl (lv_room hw) d ⟨hg.2.2.2.2.2.2.2.2.2.2.2.1, hg.2.2.2.2.2.2.2.2.2.2.2.2⟩
theorem fr_ci2 (hg : fr_ok g w S cc nL own fr lo) {f : fr_St → Option (Int32 × fr_St)} {G : Int32 × fr_St → Option τ} (hM : fr_MI2 y cc' nL' rty fr' lo' S av f) (hc : fr_cr g w nL y cc' nL' (some rty) fr' lo' (av w) pc stk st σ) (hn : pc + 3 = n) (k : ∀ p, fr_V g w nL (G p) P n ls (.int p.1 :: st) p.2) : fr_V g w nL ((f σ).bind G) P pc ls stk σ := by
  subst hn
  intro t a b H locs la hP hS hl
  cases hF : f σ with
  | none => rw [hF] at a; cases a
  | some x =>
    rw [hF] at a
    refine va_calli (hc H locs la _ _ hP hl.1 (hM g.2.1 w σ x.1 x.2 hg.2.2.2.2.2.2.1 hg.2.2.2.2.2.2.2.1 hF)) hS (fun _ _ h => h) (fun _ h => h) (fun r u t' H1 locs1 ht hvm hr hB hz hk hS1 => ?_)
    subst hr
    rw [ht] at hB
    exact k x t a b H1 locs1 la hB hS1 hl
theorem fr_cl2 (hg : fr_ok g w S cc nL own fr lo) {f : fr_St → Option (Int64 × fr_St)} {G : Int64 × fr_St → Option τ} (hM : fr_ML2 y cc' nL' fr' lo' S av f) (hc : fr_cr g w nL y cc' nL' (some .long) fr' lo' (av w) pc stk st σ) (hn : pc + 3 = n) (k : ∀ p, fr_V g w nL (G p) P n ls (.long p.1 :: st) p.2) : fr_V g w nL ((f σ).bind G) P pc ls stk σ := by
  subst hn
  intro t a b H locs la hP hS hl
  cases hF : f σ with
  | none => rw [hF] at a; cases a
  | some x =>
    rw [hF] at a
    refine va_calll (hc H locs la _ _ hP hl.1 (hM g.2.1 w σ x.1 x.2 hg.2.2.2.2.2.2.1 hg.2.2.2.2.2.2.2.1 hF)) hS (fun _ _ h => h) (fun _ h => h) (fun r u t' H1 locs1 ht hvm hr hB hz hk hS1 => ?_)
    subst hr
    rw [ht] at hB
    exact k x t a b H1 locs1 la hB hS1 hl
theorem fr_cv2 (hg : fr_ok g w S cc nL own fr lo) {f : fr_St → Option fr_St} {G : fr_St → Option τ} (hM : fr_MV2 y cc' nL' fr' lo' S av f) (hc : fr_cr g w nL y cc' nL' none fr' lo' (av w) pc stk st σ) (hn : pc + 3 = n) (k : ∀ σ, fr_V g w nL (G σ) P n ls st σ) : fr_V g w nL ((f σ).bind G) P pc ls stk σ := by
  subst hn
  intro t a b H locs la hP hS hl
  cases hF : f σ with
  | none => rw [hF] at a; cases a
  | some x =>
    rw [hF] at a
    refine va_callv (hc H locs la _ _ hP hl.1 (hM g.2.1 w σ x hg.2.2.2.2.2.2.1 hg.2.2.2.2.2.2.2.1 hF)) hS (fun _ _ h => h) (fun _ h => h) (fun u t' H1 locs1 ht hvm hr hB hz hk hS1 => ?_)
    rw [ht] at hB
    exact k x t a b H1 locs1 la hB hS1 hl
theorem fr_cq2 (hg : fr_ok g w S cc nL own fr lo) {ps : Nat → Nat} {f : fr_St → Option (Nat × fr_St)} {G : Nat × fr_St → Option τ} (hM : fr_MR2 y cc' nL' rty fr' lo' S av ps f) (hc : fr_cr g w nL y cc' nL' (some rty) fr' lo' (av w) pc stk st σ) (hn : pc + 3 = n) (k : ∀ p, f σ = some p → fr_V g w nL (G p) P n ls (.ref (fr_ad w (ps p.1)) :: st) p.2) : fr_V g w nL ((f σ).bind G) P pc ls stk σ := by
  subst hn
  intro t a b H locs la hP hS hl
  cases hF : f σ with
  | none => rw [hF] at a; cases a
  | some x =>
    rw [hF] at a
    refine va_callr (hc H locs la _ _ hP hl.1 (hM g.2.1 w σ x.1 x.2 hg.2.2.2.2.2.2.1 hg.2.2.2.2.2.2.2.1 hF)) hS (fun _ _ h => h) (fun _ h => h) (fun u ra t' H1 locs1 ht hvm hr hB hz hk hS1 => ?_)
    obtain ⟨e, hB⟩ := hB
    subst e
    rw [ht] at hB
    exact k x hF t a b H1 locs1 la hB hS1 hl
theorem fr_ci1 (hg : fr_ok g w S cc nL own fr lo) {f : fr_St → Option Int32} {G : Int32 → Option τ} (hM : fr_MI1 y cc' nL' rty fr' lo' S av f) (hc : fr_cr g w nL y cc' nL' (some rty) fr' lo' (av w) pc stk st σ) (hn : pc + 3 = n) (k : ∀ r, fr_V g w nL (G r) P n ls (.int r :: st) σ) : fr_V g w nL ((f σ).bind G) P pc ls stk σ := by
  subst hn
  intro t a b H locs la hP hS hl
  cases hF : f σ with
  | none => rw [hF] at a; cases a
  | some x =>
    rw [hF] at a
    refine va_calli (hc H locs la _ _ hP hl.1 (hM g.2.1 w σ x σ hg.2.2.2.2.2.2.1 hg.2.2.2.2.2.2.2.1 (by show Option.map _ (f σ) = _; rw [hF]; rfl))) hS (fun _ _ h => h) (fun _ h => h) (fun r u t' H1 locs1 ht hvm hr hB hz hk hS1 => ?_)
    subst hr
    rw [ht] at hB
    exact k _ t a b H1 locs1 la hB hS1 hl
theorem fr_ci0 (hg : fr_ok g w S cc nL own fr lo) {f : fr_St → Int32} (hM : fr_MI0 y cc' nL' rty fr' lo' S av f) (hc : fr_cr g w nL y cc' nL' (some rty) fr' lo' (av w) pc stk st σ) (hn : pc + 3 = n) (k : fr_V g w nL F P n ls (.int (f σ) :: st) σ) : fr_V g w nL F P pc ls stk σ := by
  subst hn
  intro t a b H locs la hP hS hl
  refine va_calli (hc H locs la _ _ hP hl.1 (hM g.2.1 w σ (f σ) σ hg.2.2.2.2.2.2.1 hg.2.2.2.2.2.2.2.1 rfl)) hS (fun _ _ h => h) (fun _ h => h) (fun r u t' H1 locs1 ht hvm hr hB hz hk hS1 => ?_)
  subst hr
  rw [ht] at hB
  exact k t a b H1 locs1 la hB hS1 hl
theorem fr_cl1 (hg : fr_ok g w S cc nL own fr lo) {f : fr_St → Option Int64} {G : Int64 → Option τ} (hM : fr_ML1 y cc' nL' fr' lo' S av f) (hc : fr_cr g w nL y cc' nL' (some .long) fr' lo' (av w) pc stk st σ) (hn : pc + 3 = n) (k : ∀ r, fr_V g w nL (G r) P n ls (.long r :: st) σ) : fr_V g w nL ((f σ).bind G) P pc ls stk σ := by
  subst hn
  intro t a b H locs la hP hS hl
  cases hF : f σ with
  | none => rw [hF] at a; cases a
  | some x =>
    rw [hF] at a
    refine va_calll (hc H locs la _ _ hP hl.1 (hM g.2.1 w σ x σ hg.2.2.2.2.2.2.1 hg.2.2.2.2.2.2.2.1 (by show Option.map _ (f σ) = _; rw [hF]; rfl))) hS (fun _ _ h => h) (fun _ h => h) (fun r u t' H1 locs1 ht hvm hr hB hz hk hS1 => ?_)
    subst hr
    rw [ht] at hB
    exact k _ t a b H1 locs1 la hB hS1 hl
theorem fr_cl0 (hg : fr_ok g w S cc nL own fr lo) {f : fr_St → Int64} (hM : fr_ML0 y cc' nL' fr' lo' S av f) (hc : fr_cr g w nL y cc' nL' (some .long) fr' lo' (av w) pc stk st σ) (hn : pc + 3 = n) (k : fr_V g w nL F P n ls (.long (f σ) :: st) σ) : fr_V g w nL F P pc ls stk σ := by
  subst hn
  intro t a b H locs la hP hS hl
  refine va_calll (hc H locs la _ _ hP hl.1 (hM g.2.1 w σ (f σ) σ hg.2.2.2.2.2.2.1 hg.2.2.2.2.2.2.2.1 rfl)) hS (fun _ _ h => h) (fun _ h => h) (fun r u t' H1 locs1 ht hvm hr hB hz hk hS1 => ?_)
  subst hr
  rw [ht] at hB
  exact k t a b H1 locs1 la hB hS1 hl
/-! ends -/
def fr_RI (g : fr_G) (w : fr_W) (rt : FieldType) (r : Int32) (σ : fr_St) : Prop :=
  ∀ (H : Heap) (locs : List Loc) (pc : Nat) (la : Array Slot), narrow rt (.int r) = .int r → decode g.2.2.2.2.2.2.2.2.2.1.code pc = .ok (.ireturn, 1) → va_P w.1 vwCl (fr_wd w σ) H → va_S (fr_A w) g.2.2.2.2.1.heap H locs →
    W g.1 g.2.1 g.2.2.1 g.2.2.2.1 g.2.2.2.2.1 g.2.2.2.2.2.1 g.2.2.2.2.2.2.1 g.2.2.2.2.2.2.2.1 g.2.2.2.2.2.2.2.2.1 g.2.2.2.2.2.2.2.2.2.1 H locs g.2.2.2.2.2.2.2.2.2.2.1 g.2.2.2.2.2.2.2.2.2.2.2.1 g.2.2.2.2.2.2.2.2.2.2.2.2 (F0 g.2.2.2.2.2.1 pc la [.int r])
def fr_RL (g : fr_G) (w : fr_W) (r : Int64) (σ : fr_St) : Prop :=
  ∀ (H : Heap) (locs : List Loc) (pc : Nat) (la : Array Slot), decode g.2.2.2.2.2.2.2.2.2.1.code pc = .ok (.lreturn, 1) → va_P w.1 vwCl (fr_wd w σ) H → va_S (fr_A w) g.2.2.2.2.1.heap H locs →
    W g.1 g.2.1 g.2.2.1 g.2.2.2.1 g.2.2.2.2.1 g.2.2.2.2.2.1 g.2.2.2.2.2.2.1 g.2.2.2.2.2.2.2.1 g.2.2.2.2.2.2.2.2.1 g.2.2.2.2.2.2.2.2.2.1 H locs g.2.2.2.2.2.2.2.2.2.2.1 g.2.2.2.2.2.2.2.2.2.2.2.1 g.2.2.2.2.2.2.2.2.2.2.2.2 (F0 g.2.2.2.2.2.1 pc la [.long r])
def fr_RV (g : fr_G) (w : fr_W) (σ : fr_St) : Prop :=
  ∀ (H : Heap) (locs : List Loc) (pc : Nat) (la : Array Slot), decode g.2.2.2.2.2.2.2.2.2.1.code pc = .ok (.return_, 1) → va_P w.1 vwCl (fr_wd w σ) H → va_S (fr_A w) g.2.2.2.2.1.heap H locs →
    W g.1 g.2.1 g.2.2.1 g.2.2.2.1 g.2.2.2.2.1 g.2.2.2.2.2.1 g.2.2.2.2.2.2.1 g.2.2.2.2.2.2.2.1 g.2.2.2.2.2.2.2.2.1 g.2.2.2.2.2.2.2.2.2.1 H locs g.2.2.2.2.2.2.2.2.2.2.1 g.2.2.2.2.2.2.2.2.2.2.2.1 g.2.2.2.2.2.2.2.2.2.2.2.2 (F0 g.2.2.2.2.2.1 pc la [])
def fr_RR (g : fr_G) (w : fr_W) (q : Nat) (σ : fr_St) : Prop :=
  ∀ (H : Heap) (locs : List Loc) (pc : Nat) (la : Array Slot), decode g.2.2.2.2.2.2.2.2.2.1.code pc = .ok (.areturn, 1) → va_P w.1 vwCl (fr_wd w σ) H → va_S (fr_A w) g.2.2.2.2.1.heap H locs →
    W g.1 g.2.1 g.2.2.1 g.2.2.2.1 g.2.2.2.2.1 g.2.2.2.2.2.1 g.2.2.2.2.2.2.1 g.2.2.2.2.2.2.2.1 g.2.2.2.2.2.2.2.2.1 g.2.2.2.2.2.2.2.2.2.1 H locs g.2.2.2.2.2.2.2.2.2.2.1 g.2.2.2.2.2.2.2.2.2.2.2.1 g.2.2.2.2.2.2.2.2.2.2.2.2 (F0 g.2.2.2.2.2.1 pc la [.ref (fr_ad w q)])
theorem fr_iret (hg : fr_ok g w S cc nL own fr lo) {t : τ} {r : Int32} (hr : narrow rty (.int r) = .int r) (d : decode cc pc = .ok (.ireturn, 1)) (hp : P t → fr_RI g w rty r σ) : fr_V g w nL (some t) P pc ls [.int r] σ := by
  intro t' a b H locs la hP hS hl
  cases a
  exact hp b H locs pc la hr (by rw [hg.2.1]; exact d) hP hS
theorem fr_zret (hg : fr_ok g w S cc nL own fr lo) {t : τ} {r : Int32} (d : decode cc pc = .ok (.ireturn, 1)) (hp : P t → fr_RI g w .boolean r σ) : fr_V g w nL (fr_z r t) P pc ls [.int r] σ := by
  intro t' a b H locs la hP hS hl
  unfold fr_z at a
  by_cases hr : r = 0 ∨ r = 1
  · rw [if_pos hr] at a
    cases a
    refine hp b H locs pc la ?_ (by rw [hg.2.1]; exact d) hP hS
    rcases hr with e | e <;> subst e <;> rfl
  · rw [if_neg hr] at a
    cases a
theorem fr_lret (hg : fr_ok g w S cc nL own fr lo) {t : τ} {r : Int64} (d : decode cc pc = .ok (.lreturn, 1)) (hp : P t → fr_RL g w r σ) : fr_V g w nL (some t) P pc ls [.long r] σ := by
  intro t' a b H locs la hP hS hl
  cases a
  exact hp b H locs pc la (by rw [hg.2.1]; exact d) hP hS
theorem fr_vret (hg : fr_ok g w S cc nL own fr lo) {t : τ} (d : decode cc pc = .ok (.return_, 1)) (hp : P t → fr_RV g w σ) : fr_V g w nL (some t) P pc ls [] σ := by
  intro t' a b H locs la hP hS hl
  cases a
  exact hp b H locs pc la (by rw [hg.2.1]; exact d) hP hS
theorem fr_aret (hg : fr_ok g w S cc nL own fr lo) {t : τ} {q : Nat} (d : decode cc pc = .ok (.areturn, 1)) (hp : P t → fr_RR g w q σ) : fr_V g w nL (some t) P pc ls [.ref (fr_ad w q)] σ := by
  intro t' a b H locs la hP hS hl
  cases a
  exact hp b H locs pc la (by rw [hg.2.1]; exact d) hP hS
end FRC
/-! a contract out of a walk -/
section FRM
variable {y : MethodName} {cc : ByteArray} {nL : Nat} {rt : FieldType} {fr lo : Nat} {S : List fr_Sh} {av : fr_W → List Value}
theorem fr_okOf {p : Program} {l : Launch} {e : Env} {s : State} {m : MethodId} {args : Array Value} {below : List Frame} {meth : Method} {c : Code} {s₁ : State} {ro : Option FieldType} {Q : State → Prop} {w : fr_W}
    (B : BodyLoose p l y (headSpec (.code y cc nL ro :: fr_gw) (fr_rm_ fr lo)) cc nL ro e s m args below meth c s₁) (hml : c.maxLocals = nL) (hk : fr_kk w s) (hS : fr_sh w = S) (hD : ∀ σ, va_D (fr_A w) (fr_wd w σ)) :
    fr_ok (p, l, e, (headSpec (.code y cc nL ro :: fr_gw) (fr_rm_ fr lo)).room, s, m, args, below, meth, c, 0, 0, Q) w S cc nL y.cls fr lo :=
  ⟨B.exec, B.bytes, hml, findClass_of_methodNamed B.named, fun x hx => atoms_spec (ws := .code y cc nL ro :: fr_gw) B.pre x (List.mem_cons_of_mem _ hx), hk, hS, hD, B.notSynchronized, rfl, rfl, Nat.zero_le _, Nat.zero_le _⟩
theorem fr_enter {g : fr_G} {w : fr_W} {σ : fr_St} {av : List Value} {H : Heap} (hlen : (lg_sl av).length ≤ nL) (hP : va_P w.1 vwCl (fr_wd w σ) g.2.2.2.2.1.heap) (k : fr_K g w nL 0 (lv_args 0 av) [] σ) :
    W g.1 g.2.1 g.2.2.1 g.2.2.2.1 g.2.2.2.2.1 g.2.2.2.2.2.1 g.2.2.2.2.2.2.1 g.2.2.2.2.2.2.2.1 g.2.2.2.2.2.2.2.2.1 g.2.2.2.2.2.2.2.2.2.1 g.2.2.2.2.1.heap [] g.2.2.2.2.2.2.2.2.2.2.1 g.2.2.2.2.2.2.2.2.2.2.2.1 g.2.2.2.2.2.2.2.2.2.2.2.2 (entryFrame g.2.2.2.2.2.1 av.toArray nL) := by
  rw [lg_entry_eq]
  exact k _ [] _ hP va_S.rf (lv_entry av hlen)
theorem fr_mkI2 {f : fr_St → Option (Int32 × fr_St)} (hy : plainName y.cls = true) (hlen : ∀ w, (lg_sl (av w)).length ≤ nL) (body : ∀ g w σ, fr_ok g w S cc nL y.cls fr lo → fr_V g w nL (f σ) (fun t => fr_RI g w rt t.1 t.2) 0 (lv_args 0 (av w)) [] σ) : fr_MI2 y cc nL rt fr lo S av f := by
  intro l w σ r σ' hS hD hf
  refine Met.ofW (cc := cc) (maxL := nL) (ret := some rt) hy rfl ?_
  intro p e s m args below meth c s₁ B hml hv
  obtain ⟨rfl, hP, hk⟩ := hv
  refine fr_enter (g := (p, l, e, _, s, m, (av w).toArray, below, meth, c, 0, 0, _)) (hlen w) hP (H := s.heap) (body _ w σ (fr_okOf B hml hk hS hD) (r, σ') hf ?_)
  intro H locs pc la hn hd hP2 hS2
  exact W.zret B.exec rfl B.returns hn (fun t ht hW => ⟨⟨r, (), rfl, rfl, by show va_P w.1 vwCl (fr_wd w σ') t.heap; rw [ht]; exact hP2⟩, hS2.F ht⟩) hS2.2.2 hd B.notSynchronized
theorem fr_mkL2 {f : fr_St → Option (Int64 × fr_St)} (hy : plainName y.cls = true) (hlen : ∀ w, (lg_sl (av w)).length ≤ nL) (body : ∀ g w σ, fr_ok g w S cc nL y.cls fr lo → fr_V g w nL (f σ) (fun t => fr_RL g w t.1 t.2) 0 (lv_args 0 (av w)) [] σ) : fr_ML2 y cc nL fr lo S av f := by
  intro l w σ r σ' hS hD hf
  refine Met.ofW (cc := cc) (maxL := nL) (ret := some .long) hy rfl ?_
  intro p e s m args below meth c s₁ B hml hv
  obtain ⟨rfl, hP, hk⟩ := hv
  refine fr_enter (g := (p, l, e, _, s, m, (av w).toArray, below, meth, c, 0, 0, _)) (hlen w) hP (H := s.heap) (body _ w σ (fr_okOf B hml hk hS hD) (r, σ') hf ?_)
  intro H locs pc la hd hP2 hS2
  exact W.lret B.exec rfl B.returns (fun t ht hW => ⟨⟨r, (), rfl, rfl, by show va_P w.1 vwCl (fr_wd w σ') t.heap; rw [ht]; exact hP2⟩, hS2.F ht⟩) hS2.2.2 hd B.notSynchronized
theorem fr_mkV2 {f : fr_St → Option fr_St} (hy : plainName y.cls = true) (hlen : ∀ w, (lg_sl (av w)).length ≤ nL) (body : ∀ g w σ, fr_ok g w S cc nL y.cls fr lo → fr_V g w nL (f σ) (fun t => fr_RV g w t) 0 (lv_args 0 (av w)) [] σ) : fr_MV2 y cc nL fr lo S av f := by
  intro l w σ σ' hS hD hf
  refine Met.ofW (cc := cc) (maxL := nL) (ret := none) hy rfl ?_
  intro p e s m args below meth c s₁ B hml hv
  obtain ⟨rfl, hP, hk⟩ := hv
  refine fr_enter (g := (p, l, e, _, s, m, (av w).toArray, below, meth, c, 0, 0, _)) (hlen w) hP (H := s.heap) (body _ w σ (fr_okOf B hml hk hS hD) σ' hf ?_)
  intro H locs pc la hd hP2 hS2
  exact W.vret B.exec rfl B.returns (fun t ht hW => ⟨⟨(), rfl, trivial, by show va_P w.1 vwCl (fr_wd w σ') t.heap; rw [ht]; exact hP2⟩, hS2.F ht⟩) hS2.2.2 hd B.notSynchronized
theorem fr_mkR2 {ps : Nat → Nat} {f : fr_St → Option (Nat × fr_St)} (hy : plainName y.cls = true) (hrt : ∃ nm, rt = .object nm) (hlen : ∀ w, (lg_sl (av w)).length ≤ nL) (body : ∀ g w σ, fr_ok g w S cc nL y.cls fr lo → fr_V g w nL (f σ) (fun t => fr_RR g w (ps t.1) t.2) 0 (lv_args 0 (av w)) [] σ) : fr_MR2 y cc nL rt fr lo S av ps f := by
  intro l w σ r σ' hS hD hf
  refine Met.ofW (cc := cc) (maxL := nL) (ret := some rt) hy rfl ?_
  intro p e s m args below meth c s₁ B hml hv
  obtain ⟨rfl, hP, hk⟩ := hv
  refine fr_enter (g := (p, l, e, _, s, m, (av w).toArray, below, meth, c, 0, 0, _)) (hlen w) hP (H := s.heap) (body _ w σ (fr_okOf B hml hk hS hD) (r, σ') hf ?_)
  intro H locs pc la hd hP2 hS2
  exact W.aret B.exec rfl B.returns (Or.inl hrt) (Or.inr ⟨_, rfl⟩) (fun t ht hW => ⟨⟨(), _, rfl, trivial, rfl, by rw [ht]; exact hP2⟩, hS2.F ht⟩) hS2.2.2 hd B.notSynchronized
theorem fr_mkI1 {f : fr_St → Option Int32} (hy : plainName y.cls = true) (hlen : ∀ w, (lg_sl (av w)).length ≤ nL) (body : ∀ g w σ, fr_ok g w S cc nL y.cls fr lo → fr_V g w nL (f σ) (fun t => fr_RI g w rt t σ) 0 (lv_args 0 (av w)) [] σ) : fr_MI1 y cc nL rt fr lo S av f := by
  refine fr_mkI2 hy hlen (fun g w σ hg t h1 h2 => ?_)
  cases hF : f σ with
  | none => rw [hF] at h1; cases h1
  | some x => rw [hF] at h1; cases h1; exact body g w σ hg x hF h2
theorem fr_mkI0 {f : fr_St → Int32} (hy : plainName y.cls = true) (hlen : ∀ w, (lg_sl (av w)).length ≤ nL) (body : ∀ g w σ, fr_ok g w S cc nL y.cls fr lo → fr_V g w nL (some (f σ)) (fun t => fr_RI g w rt t σ) 0 (lv_args 0 (av w)) [] σ) : fr_MI0 y cc nL rt fr lo S av f := by
  refine fr_mkI2 hy hlen (fun g w σ hg t h1 h2 => ?_)
  cases h1
  exact body g w σ hg _ rfl h2
theorem fr_mkL1 {f : fr_St → Option Int64} (hy : plainName y.cls = true) (hlen : ∀ w, (lg_sl (av w)).length ≤ nL) (body : ∀ g w σ, fr_ok g w S cc nL y.cls fr lo → fr_V g w nL (f σ) (fun t => fr_RL g w t σ) 0 (lv_args 0 (av w)) [] σ) : fr_ML1 y cc nL fr lo S av f := by
  refine fr_mkL2 hy hlen (fun g w σ hg t h1 h2 => ?_)
  cases hF : f σ with
  | none => rw [hF] at h1; cases h1
  | some x => rw [hF] at h1; cases h1; exact body g w σ hg x hF h2
theorem fr_mkL0 {f : fr_St → Int64} (hy : plainName y.cls = true) (hlen : ∀ w, (lg_sl (av w)).length ≤ nL) (body : ∀ g w σ, fr_ok g w S cc nL y.cls fr lo → fr_V g w nL (some (f σ)) (fun t => fr_RL g w t σ) 0 (lv_args 0 (av w)) [] σ) : fr_ML0 y cc nL fr lo S av f := by
  refine fr_mkL2 hy hlen (fun g w σ hg t h1 h2 => ?_)
  cases h1
  exact body g w σ hg _ rfl h2
end FRM
