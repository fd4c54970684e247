/-! ===== am: an abstract machine over the kit: values, a heap of regions, frames ===== -/
abbrev am_V : Type := Int32 ⊕ (Int64 ⊕ Option (Nat × Nat))
abbrev am_I (x : Int32) : am_V := .inl x
abbrev am_J (x : Int64) : am_V := .inr (.inl x)
abbrev am_O (r i : Nat) : am_V := .inr (.inr (some (r, i)))
abbrev am_N : am_V := .inr (.inr none)
abbrev am_E : Type := (Nat ⊕ FieldType) × Nat
abbrev am_H : Type := Nat × (Nat → Nat → Option am_E) × (Nat → Nat → Nat → am_V)
/-- launch, class numbers and slots, array classes, the first new address, the script's address and cell -/
abbrev am_G : Type := Launch × va_G × (FieldType → ClassId) × Nat × Nat × Cell
abbrev am_M : Type := MethodName × ByteArray × Nat × Option FieldType
abbrev gm_l (g : am_G) : Launch := g.1
abbrev gm_D (g : am_G) : va_G := g.2.1
abbrev gm_A (g : am_G) : FieldType → ClassId := g.2.2.1
abbrev gm_n (g : am_G) : Nat := g.2.2.2.1
abbrev gm_b (g : am_G) : Nat := g.2.2.2.2.1
abbrev gm_s (g : am_G) : Cell := g.2.2.2.2.2
def am_ad (g : am_G) (r i : Nat) : Nat := if r = 100 then gm_b g else gm_n g + am_pos r i
def am_c (g : am_G) (v : am_V) : Value := match v with
  | .inl x => .int x
  | .inr (.inl x) => .long x
  | .inr (.inr none) => .null
  | .inr (.inr (some q)) => .ref (am_ad g q.1 q.2)
def am_cat (v : am_V) : Nat := match v with
  | .inr (.inl _) => 2
  | _ => 1
theorem am_cat_c (g : am_G) (v : am_V) : (am_c g v).category = am_cat v := by
  rcases v with x | x | _ | q <;> rfl
theorem am_cat_sum (g : am_G) (l : List am_V) : ((l.map (am_c g)).map fun v => v.category).sum = (l.map am_cat).sum := by
  induction l with
  | nil => rfl
  | cons a l ih => simp only [List.map_cons, List.sum_cons, am_cat_c, ih]
/-- what a cell holds -/
def am_at (g : am_G) (kn : am_E) (m : Nat → am_V) (a : Nat) (H : Heap) : Prop := match kn.1 with
  | .inl ci => ∃ q : vw_C, am_cl[ci]? = some q ∧ kn.2 = q.2.2 ∧ t_OB a ((gm_D g).1 ci) q.2.2 ((gm_D g).2 ci) H (fun k => am_c g (m k))
  | .inr ty => H[a]? = some (arrV (gm_A g ty) kn.2 (fun j => am_c g (m j)))
def am_R (g : am_G) (h : am_H) (H : Heap) : Prop :=
  H.size = gm_n g + h.1 ∧ gm_b g < gm_n g ∧ H[gm_b g]? = some (gm_s g) ∧
  (∀ (r i : Nat) (kn : am_E), h.2.1 r i = some kn → gm_n g ≤ am_ad g r i ∧ am_at g kn (h.2.2 r i) (am_ad g r i) H) ∧
  (∀ (r i r' i' : Nat) (x y : am_E), h.2.1 r i = some x → h.2.1 r' i' = some y → am_ad g r i = am_ad g r' i' → r = r' ∧ i = i')
/-- an int grid's rows are int arrays -/
def am_KA (g : am_G) (U : State) : Prop := ∃ kA : Class, U.vm.classes[gm_A g (.array .int)]? = some kA ∧ kA.kind = .array (gm_A g .int) (.array .int)
theorem am_KA.moved {g : am_G} {u U : State} (hvm : u.vm.Alike U.vm) (h : am_KA g u) : am_KA g U := by
  obtain ⟨kA, h1, h2⟩ := h
  obtain ⟨k', hk', he⟩ := hvm.2.2 _ _ h1
  exact ⟨k', hk', by rw [he]; exact h2⟩
/-- what the tables say -/
def am_K (g : am_G) (U : State) : Prop :=
  va_K (gm_D g) am_cl [] U ∧ (∀ ty ∈ am_tys, ArrOfT U (gm_A g ty) ty ∧ va_RA U (gm_A g ty) ty) ∧
  (∀ w ∈ am_NF, va_Nw (.fieldLinkNest w.1 w.2.1 w.2.2.1 w.2.2.2.1 w.2.2.2.2.1 w.2.2.2.2.2) U) ∧ (∀ w ∈ am_NM, va_Nw (.methodLinkNest w.1 w.2.1 w.2.2.1 w.2.2.2) U) ∧
  (∀ C ∈ am_AO, va_AO C U) ∧ U.isArrayOf (gm_s g) .int ∧ (gm_s g).vm ≠ .unknown ∧ am_KA g U
theorem am_K.moved {g : am_G} {s U : State} (hW : s.WarmedH U.vm) (h : am_K g s) : am_K g U := by
  obtain ⟨h1, h2, h3, h4, h5, h6, h7, h8⟩ := h
  exact ⟨va_K.moved hW.alike h1, fun ty ht => ⟨arrOfT_moved hW.alike (h2 ty ht).1, va_RA.moved hW.alike (h2 ty ht).2⟩, fun w hw => va_Nw.warmF hW (h3 w hw), fun w hw => va_Nw.warmM hW (h4 w hw), fun C hC => va_AO.moved hW.alike (h5 C hC), State.isArrayOf_alike hW.alike h6, h7, h8.moved hW.alike⟩
theorem am_K.same {g : am_G} {u U : State} (hv : u.vm = U.vm) (h : am_K g u) : am_K g U := by
  obtain ⟨h1, h2, h3, h4, h5, h6, h7, h8⟩ := h
  have ha : u.vm.Alike U.vm := by rw [hv]; exact Vm.Alike.refl _
  exact ⟨va_K.moved ha h1, fun ty ht => ⟨arrOfT_moved ha (h2 ty ht).1, va_RA.moved ha (h2 ty ht).2⟩, fun w hw => va_Nw.same rfl hv (h3 w hw), fun w hw => va_Nw.same rfl hv (h4 w hw), fun C hC => va_AO.moved ha (h5 C hC), State.isArrayOf_alike ha h6, h7, h8.moved ha⟩
/-- the locals -/
def am_Lv (g : am_G) (ls : Array Slot) (nL : Nat) (lv : List (Option am_V)) : Prop := ls.size = nL ∧ lv_wf ls ∧ ∀ (i : Nat) (v : am_V), lv[i]? = some (some v) → ls[i]? = some (.val (am_c g v)) ∧ am_cat v = 1
def am_prs (g : am_G) (lv : List (Option am_V)) : List (Nat × Value) := (List.range lv.length).filterMap (fun i => match lv[i]? with
  | some (some v) => some (i, am_c g v)
  | _ => none)
theorem am_prs_in {g : am_G} {lv : List (Option am_V)} {i : Nat} {v : am_V} (h : lv[i]? = some (some v)) : (i, am_c g v) ∈ am_prs g lv := by
  unfold am_prs
  refine List.mem_filterMap.mpr ⟨i, List.mem_range.mpr (List.getElem?_eq_some_iff.mp h).1, ?_⟩
  simp only [h]
theorem am_prs_of {g : am_G} {lv : List (Option am_V)} {q : Nat × Value} (h : q ∈ am_prs g lv) : ∃ v, lv[q.1]? = some (some v) ∧ q.2 = am_c g v := by
  unfold am_prs at h
  obtain ⟨i, -, hi⟩ := List.mem_filterMap.mp h
  split at hi
  next v hv => cases hi; exact ⟨v, hv, rfl⟩
  next => cases hi
theorem am_Lv.has {g : am_G} {ls : Array Slot} {nL : Nat} {lv : List (Option am_V)} (h : am_Lv g ls nL lv) : lv_has ls nL (am_prs g lv) := by
  refine ⟨h.1, h.2.1, fun q hq => ?_⟩
  obtain ⟨v, h1, h2⟩ := am_prs_of hq
  rw [h2]
  exact (h.2.2 _ _ h1).1
theorem am_Lv.put {g : am_G} {ls ls' : Array Slot} {nL i : Nat} {lv : List (Option am_V)} {v : am_V} {x : Value} (h : am_Lv g ls nL lv) (hx : am_c g v = x) (hc : am_cat v = 1)
    (h' : lv_has ls' nL ((i, x) :: (am_prs g lv).filter (fun q => !(q.1 == i) && !(q.1 + 1 == i && q.2.category == 2)))) : am_Lv g ls' nL (lv.set i (some v)) := by
  subst hx
  refine ⟨h'.1, h'.2.1, fun j u hj => ?_⟩
  rw [List.getElem?_set] at hj
  split at hj
  next e =>
    subst e
    split at hj
    next => cases hj; exact ⟨h'.2.2 (i, am_c g v) List.mem_cons_self, hc⟩
    next => cases hj
  next e =>
    have h3 := (h.2.2 j u hj).2
    refine ⟨h'.2.2 (j, am_c g u) (List.mem_cons_of_mem _ (List.mem_filter.mpr ⟨am_prs_in hj, ?_⟩)), h3⟩
    have e1 : (j == i) = false := by simpa using Ne.symm e
    have e2 : ((am_c g u).category == 2) = false := by rw [am_cat_c, h3]; rfl
    simp only [e1, e2, Bool.and_false, Bool.not_false, Bool.and_self]
theorem am_lv_args (g : am_G) (as : List am_V) : ∀ n : Nat, (∀ v ∈ as, am_cat v = 1) → ∀ (i : Nat) (v : am_V), as[i]? = some v → (n + i, am_c g v) ∈ lv_args n (as.map (am_c g)) := by
  induction as with
  | nil => intro n _ i v h; simp at h
  | cons a l ih =>
    intro n hc i v h
    have ha : ¬ (am_c g a).category = 2 := by rw [am_cat_c, hc a List.mem_cons_self]; decide
    show _ ∈ lv_args n (am_c g a :: l.map (am_c g))
    unfold lv_args
    rw [if_neg ha]
    cases i with
    | zero => cases h; exact List.mem_cons_self
    | succ i =>
      have := ih (n + 1) (fun v hv => hc v (List.mem_cons_of_mem _ hv)) i v (by simpa using h)
      rw [show n + (i + 1) = n + 1 + i by omega]
      exact List.mem_cons_of_mem _ this
theorem am_Lv.entry (g : am_G) (as : List am_V) (n : Nat) {lv : List (Option am_V)} (hlv : lv = as.map some ++ List.replicate (n - as.length) none) (hc : ∀ v ∈ as, am_cat v = 1) (hn : as.length ≤ n) : am_Lv g ((lg_sl (as.map (am_c g)) ++ List.replicate (n - (lg_sl (as.map (am_c g))).length) Slot.unset).toArray) n lv := by
  have hlen : (lg_sl (as.map (am_c g))).length = as.length := by
    clear hn hlv
    induction as with
    | nil => rfl
    | cons a l ih =>
      have ha : ¬ (am_c g a).category = 2 := by rw [am_cat_c, hc a List.mem_cons_self]; decide
      have := ih (fun v hv => hc v (List.mem_cons_of_mem _ hv))
      unfold lg_sl at this ⊢
      simp only [List.map_cons, List.flatMap_cons, if_neg ha, List.length_append, this, List.length_cons, List.length_nil]
      omega
  obtain ⟨h1, h2, h3⟩ := lv_entry (as.map (am_c g)) (n := n) (by rw [hlen]; exact hn)
  refine ⟨h1, h2, fun i v hi => ?_⟩
  subst hlv
  rw [List.getElem?_append] at hi
  split at hi
  next hl =>
    rw [List.getElem?_map] at hi
    cases hv : as[i]? with
    | none => rw [hv] at hi; cases hi
    | some u =>
      rw [hv] at hi
      cases hi
      have := am_lv_args g as 0 hc i v hv
      rw [Nat.zero_add] at this
      exact ⟨h3 _ this, hc v (List.mem_of_getElem? hv)⟩
  next =>
    rw [List.getElem?_replicate] at hi
    split at hi
    next => cases hi
    next => cases hi
abbrev am_cond (μ : am_M) : Cond := .code μ.1 μ.2.1 μ.2.2.1 μ.2.2.2
abbrev am_ws (μ : am_M) : List Cond := am_cond μ :: am_TW
abbrev am_rm (d mc ms : Nat) : Room := { frames := d, cells := mc, slots := ms, locals := 46 * d }
abbrev am_A (g : am_G) : Nat → Prop := fun q => gm_n g ≤ q
def am_Qc (g : am_G) (Q : Option am_V → am_H → Prop) : Array Value → State → Outcome → State → Prop := fun _ st o t =>
  (∃ (v : Option am_V) (h : am_H), o = .returned (v.map (am_c g)) ∧ Q v h ∧ am_R g h t.heap) ∧ va_F (am_A g) st t
def am_X (g : am_G) (μ : am_M) (p : Program) (s : State) (m : MethodId) (args : Array Value) (meth : Method) (c : Code) : Prop :=
  p.tables.exec = Jvm.exec ∧ c.code = μ.2.1 ∧ s.vm.findClass μ.1.cls = some m.cls ∧ (∀ w ∈ am_TW, w.before args s = true) ∧ am_K g s ∧ gm_n g ≤ s.heap.size ∧ c.maxLocals = μ.2.2.1 ∧ meth.sig.returnType = μ.2.2.2 ∧ meth.locks = false ∧ (μ.1.name = "<init>" → meth.name = "<init>")
/-- a frame: whatever the machine is, if the heap holds h, it comes to an end with Q; ac cells of as slots may still be made, d calls be open -/
def am_T (g : am_G) (μ : am_M) (d ac as pc : Nat) (lv : List (Option am_V)) (st : List am_V) (h : am_H) (Q : Option am_V → am_H → Prop) : Prop :=
  ∀ (R : Room) (mc ms : Nat) (p : Program) (e : Env) (s : State) (m : MethodId) (args : Array Value) (below : List Frame) (meth : Method) (c : Code) (H : Heap) (locs : List Loc) (cells slots : Nat) (ls : Array Slot),
    (d ≤ R.frames ∧ 46 * d ≤ R.locals ∧ mc ≤ R.cells ∧ ms ≤ R.slots) → am_X g μ p s m args meth c → am_R g h H → va_S (am_A g) s.heap H locs → am_Lv g ls μ.2.2.1 lv → cells + ac ≤ mc → slots + as ≤ ms →
    W p (gm_l g) e R s m args below meth c H locs cells slots (MQ below (am_Qc g Q) args s mc ms (am_A g)) (F0 m pc ls (st.map (am_c g)))
/-- a call -/
def am_C (g : am_G) (μ : am_M) (d mc ms : Nat) (as : List am_V) (h : am_H) (Q : Option am_V → am_H → Prop) : Prop :=
  Met (gm_l g) μ.1 (am_ws μ) (am_rm d mc ms) (fun a U => a = (as.map (am_c g)).toArray ∧ am_K g U ∧ am_R g h U.heap) (am_Qc g Q) mc ms (am_A g)
theorem am_blind (g : am_G) (as : List am_V) (h : am_H) : FrameBlind (fun a U => a = (as.map (am_c g)).toArray ∧ am_K g U ∧ am_R g h U.heap) := by
  intro a U f mk hq
  exact ⟨hq.1, am_K.same (u := U) (U := U.calling f mk a) rfl hq.2.1, hq.2.2⟩
theorem am_enter {g : am_G} {μ : am_M} {d mc ms : Nat} {as : List am_V} {lv : List (Option am_V)} {h : am_H} {Q : Option am_V → am_H → Prop} (hy : plainName μ.1.cls = true) (hlv : lv = as.map some ++ List.replicate (μ.2.2.1 - as.length) none) (hc : ∀ v ∈ as, am_cat v = 1) (hn : as.length ≤ μ.2.2.1)
    (k : am_T g μ d mc ms 0 lv [] h Q) : am_C g μ d mc ms as h Q := by
  refine Met.ofW (cc := μ.2.1) (maxL := μ.2.2.1) (ret := μ.2.2.2) (ws' := am_TW) hy rfl ?_
  intro p e s m args below meth c s₁ B hml hv
  obtain ⟨rfl, hK, hR⟩ := hv
  have hts := atoms_spec (ws := am_ws μ) B.pre
  rw [lg_entry_eq]
  exact k (am_rm d mc ms) mc ms p e s m _ below meth c s.heap [] 0 0 _ ⟨Nat.le_refl _, Nat.le_refl _, Nat.le_refl _, Nat.le_refl _⟩
    ⟨B.exec, B.bytes, findClass_of_methodNamed B.named, fun w hw => hts w (List.mem_cons_of_mem _ hw), hK, by rw [hR.1]; exact Nat.le_add_right _ _, hml, B.returns, B.notSynchronized, fun q => by rw [(name_of_methodNamed B.named B.method).1]; exact q⟩
    hR va_S.rf (am_Lv.entry g as _ hlv hc hn) (by omega) (by omega)
/-! ===== rows: the stack and the locals ===== -/
theorem am_iconst {g : am_G} {μ : am_M} {d ac as pc : Nat} {lv : List (Option am_V)} {st : List am_V} {h : am_H} {Q : Option am_V → am_H → Prop} {n : Int} {v : Int32} (hd : decode μ.2.1 pc = .ok (.iconst n, 1)) (hv : Int32.ofInt n = v) (k : am_T g μ d ac as (pc + 1) lv (am_I v :: st) h Q) : am_T g μ d ac as pc lv st h Q :=
  fun R mc ms p e s m args below meth c H locs cells slots ls hR hX hh hS hl h1 h2 => lv_iconst hX.1 hX.2.1 hd hv (k R mc ms p e s m args below meth c H locs cells slots ls hR hX hh hS hl h1 h2)
theorem am_bipush {g : am_G} {μ : am_M} {d ac as pc : Nat} {lv : List (Option am_V)} {st : List am_V} {h : am_H} {Q : Option am_V → am_H → Prop} {n : Int} {v : Int32} (hd : decode μ.2.1 pc = .ok (.bipush n, 2)) (hv : (Int8.ofInt n).toInt32 = v) (k : am_T g μ d ac as (pc + 2) lv (am_I v :: st) h Q) : am_T g μ d ac as pc lv st h Q :=
  fun R mc ms p e s m args below meth c H locs cells slots ls hR hX hh hS hl h1 h2 => lv_bipush hX.1 hX.2.1 hd hv (k R mc ms p e s m args below meth c H locs cells slots ls hR hX hh hS hl h1 h2)
theorem am_sipush {g : am_G} {μ : am_M} {d ac as pc : Nat} {lv : List (Option am_V)} {st : List am_V} {h : am_H} {Q : Option am_V → am_H → Prop} {n : Int} {v : Int32} (hd : decode μ.2.1 pc = .ok (.sipush n, 3)) (hv : (Int16.ofInt n).toInt32 = v) (k : am_T g μ d ac as (pc + 3) lv (am_I v :: st) h Q) : am_T g μ d ac as pc lv st h Q :=
  fun R mc ms p e s m args below meth c H locs cells slots ls hR hX hh hS hl h1 h2 => lv_sipush hX.1 hX.2.1 hd hv (k R mc ms p e s m args below meth c H locs cells slots ls hR hX hh hS hl h1 h2)
theorem am_iadd {g : am_G} {μ : am_M} {d ac as pc : Nat} {lv : List (Option am_V)} {st : List am_V} {h : am_H} {Q : Option am_V → am_H → Prop} {x y : Int32} (hd : decode μ.2.1 pc = .ok (.iadd, 1)) (k : am_T g μ d ac as (pc + 1) lv (am_I (x + y) :: st) h Q) : am_T g μ d ac as pc lv (am_I y :: am_I x :: st) h Q :=
  fun R mc ms p e s m args below meth c H locs cells slots ls hR hX hh hS hl h1 h2 => lv_iadd hX.1 hX.2.1 hd (k R mc ms p e s m args below meth c H locs cells slots ls hR hX hh hS hl h1 h2)
theorem am_isub {g : am_G} {μ : am_M} {d ac as pc : Nat} {lv : List (Option am_V)} {st : List am_V} {h : am_H} {Q : Option am_V → am_H → Prop} {x y : Int32} (hd : decode μ.2.1 pc = .ok (.isub, 1)) (k : am_T g μ d ac as (pc + 1) lv (am_I (x - y) :: st) h Q) : am_T g μ d ac as pc lv (am_I y :: am_I x :: st) h Q :=
  fun R mc ms p e s m args below meth c H locs cells slots ls hR hX hh hS hl h1 h2 => lv_isub hX.1 hX.2.1 hd (k R mc ms p e s m args below meth c H locs cells slots ls hR hX hh hS hl h1 h2)
theorem am_imul {g : am_G} {μ : am_M} {d ac as pc : Nat} {lv : List (Option am_V)} {st : List am_V} {h : am_H} {Q : Option am_V → am_H → Prop} {x y : Int32} (hd : decode μ.2.1 pc = .ok (.imul, 1)) (k : am_T g μ d ac as (pc + 1) lv (am_I (x * y) :: st) h Q) : am_T g μ d ac as pc lv (am_I y :: am_I x :: st) h Q :=
  fun R mc ms p e s m args below meth c H locs cells slots ls hR hX hh hS hl h1 h2 => lv_imul hX.1 hX.2.1 hd (k R mc ms p e s m args below meth c H locs cells slots ls hR hX hh hS hl h1 h2)
theorem am_iand {g : am_G} {μ : am_M} {d ac as pc : Nat} {lv : List (Option am_V)} {st : List am_V} {h : am_H} {Q : Option am_V → am_H → Prop} {x y : Int32} (hd : decode μ.2.1 pc = .ok (.iand, 1)) (k : am_T g μ d ac as (pc + 1) lv (am_I (x &&& y) :: st) h Q) : am_T g μ d ac as pc lv (am_I y :: am_I x :: st) h Q :=
  fun R mc ms p e s m args below meth c H locs cells slots ls hR hX hh hS hl h1 h2 => lv_iand hX.1 hX.2.1 hd (k R mc ms p e s m args below meth c H locs cells slots ls hR hX hh hS hl h1 h2)
theorem am_ior {g : am_G} {μ : am_M} {d ac as pc : Nat} {lv : List (Option am_V)} {st : List am_V} {h : am_H} {Q : Option am_V → am_H → Prop} {x y : Int32} (hd : decode μ.2.1 pc = .ok (.ior, 1)) (k : am_T g μ d ac as (pc + 1) lv (am_I (x ||| y) :: st) h Q) : am_T g μ d ac as pc lv (am_I y :: am_I x :: st) h Q :=
  fun R mc ms p e s m args below meth c H locs cells slots ls hR hX hh hS hl h1 h2 => lv_ior hX.1 hX.2.1 hd (k R mc ms p e s m args below meth c H locs cells slots ls hR hX hh hS hl h1 h2)
theorem am_ixor {g : am_G} {μ : am_M} {d ac as pc : Nat} {lv : List (Option am_V)} {st : List am_V} {h : am_H} {Q : Option am_V → am_H → Prop} {x y : Int32} (hd : decode μ.2.1 pc = .ok (.ixor, 1)) (k : am_T g μ d ac as (pc + 1) lv (am_I (x ^^^ y) :: st) h Q) : am_T g μ d ac as pc lv (am_I y :: am_I x :: st) h Q :=
  fun R mc ms p e s m args below meth c H locs cells slots ls hR hX hh hS hl h1 h2 => lv_ixor hX.1 hX.2.1 hd (k R mc ms p e s m args below meth c H locs cells slots ls hR hX hh hS hl h1 h2)
theorem am_ineg {g : am_G} {μ : am_M} {d ac as pc : Nat} {lv : List (Option am_V)} {st : List am_V} {h : am_H} {Q : Option am_V → am_H → Prop} {x : Int32} (hd : decode μ.2.1 pc = .ok (.ineg, 1)) (k : am_T g μ d ac as (pc + 1) lv (am_I (-x) :: st) h Q) : am_T g μ d ac as pc lv (am_I x :: st) h Q :=
  fun R mc ms p e s m args below meth c H locs cells slots ls hR hX hh hS hl h1 h2 => lv_ineg hX.1 hX.2.1 hd (k R mc ms p e s m args below meth c H locs cells slots ls hR hX hh hS hl h1 h2)
theorem am_ladd {g : am_G} {μ : am_M} {d ac as pc : Nat} {lv : List (Option am_V)} {st : List am_V} {h : am_H} {Q : Option am_V → am_H → Prop} {x y : Int64} (hd : decode μ.2.1 pc = .ok (.ladd, 1)) (k : am_T g μ d ac as (pc + 1) lv (am_J (x + y) :: st) h Q) : am_T g μ d ac as pc lv (am_J y :: am_J x :: st) h Q :=
  fun R mc ms p e s m args below meth c H locs cells slots ls hR hX hh hS hl h1 h2 => lv_ladd hX.1 hX.2.1 hd (k R mc ms p e s m args below meth c H locs cells slots ls hR hX hh hS hl h1 h2)
theorem am_lsub {g : am_G} {μ : am_M} {d ac as pc : Nat} {lv : List (Option am_V)} {st : List am_V} {h : am_H} {Q : Option am_V → am_H → Prop} {x y : Int64} (hd : decode μ.2.1 pc = .ok (.lsub, 1)) (k : am_T g μ d ac as (pc + 1) lv (am_J (x - y) :: st) h Q) : am_T g μ d ac as pc lv (am_J y :: am_J x :: st) h Q :=
  fun R mc ms p e s m args below meth c H locs cells slots ls hR hX hh hS hl h1 h2 => lv_lsub hX.1 hX.2.1 hd (k R mc ms p e s m args below meth c H locs cells slots ls hR hX hh hS hl h1 h2)
theorem am_lmul {g : am_G} {μ : am_M} {d ac as pc : Nat} {lv : List (Option am_V)} {st : List am_V} {h : am_H} {Q : Option am_V → am_H → Prop} {x y : Int64} (hd : decode μ.2.1 pc = .ok (.lmul, 1)) (k : am_T g μ d ac as (pc + 1) lv (am_J (x * y) :: st) h Q) : am_T g μ d ac as pc lv (am_J y :: am_J x :: st) h Q :=
  fun R mc ms p e s m args below meth c H locs cells slots ls hR hX hh hS hl h1 h2 => lv_lmul hX.1 hX.2.1 hd (k R mc ms p e s m args below meth c H locs cells slots ls hR hX hh hS hl h1 h2)
theorem am_i2l {g : am_G} {μ : am_M} {d ac as pc : Nat} {lv : List (Option am_V)} {st : List am_V} {h : am_H} {Q : Option am_V → am_H → Prop} {x : Int32} (hd : decode μ.2.1 pc = .ok (.i2l, 1)) (k : am_T g μ d ac as (pc + 1) lv (am_J x.toInt64 :: st) h Q) : am_T g μ d ac as pc lv (am_I x :: st) h Q :=
  fun R mc ms p e s m args below meth c H locs cells slots ls hR hX hh hS hl h1 h2 => lv_i2l hX.1 hX.2.1 hd rfl (k R mc ms p e s m args below meth c H locs cells slots ls hR hX hh hS hl h1 h2)
theorem am_l2i {g : am_G} {μ : am_M} {d ac as pc : Nat} {lv : List (Option am_V)} {st : List am_V} {h : am_H} {Q : Option am_V → am_H → Prop} {x : Int64} (hd : decode μ.2.1 pc = .ok (.l2i, 1)) (k : am_T g μ d ac as (pc + 1) lv (am_I x.toInt32 :: st) h Q) : am_T g μ d ac as pc lv (am_J x :: st) h Q :=
  fun R mc ms p e s m args below meth c H locs cells slots ls hR hX hh hS hl h1 h2 => lv_l2i hX.1 hX.2.1 hd rfl (k R mc ms p e s m args below meth c H locs cells slots ls hR hX hh hS hl h1 h2)
theorem am_lcmp {g : am_G} {μ : am_M} {d ac as pc : Nat} {lv : List (Option am_V)} {st : List am_V} {h : am_H} {Q : Option am_V → am_H → Prop} {x y : Int64} (hd : decode μ.2.1 pc = .ok (.lcmp, 1)) (k : am_T g μ d ac as (pc + 1) lv (am_I (lg_cmp x y) :: st) h Q) : am_T g μ d ac as pc lv (am_J y :: am_J x :: st) h Q :=
  fun R mc ms p e s m args below meth c H locs cells slots ls hR hX hh hS hl h1 h2 => W.lcmp hX.1 hX.2.1 hd (k R mc ms p e s m args below meth c H locs cells slots ls hR hX hh hS hl h1 h2)
theorem am_dup {g : am_G} {μ : am_M} {d ac as pc : Nat} {lv : List (Option am_V)} {st : List am_V} {h : am_H} {Q : Option am_V → am_H → Prop} {va : am_V} (hd : decode μ.2.1 pc = .ok (.dup, 1)) (hva : am_cat va = 1) (k : am_T g μ d ac as (pc + 1) lv (va :: va :: st) h Q) : am_T g μ d ac as pc lv (va :: st) h Q :=
  fun R mc ms p e s m args below meth c H locs cells slots ls hR hX hh hS hl h1 h2 => lv_dup hX.1 hX.2.1 hd (by rw [am_cat_c]; exact hva) (k R mc ms p e s m args below meth c H locs cells slots ls hR hX hh hS hl h1 h2)
theorem am_pop {g : am_G} {μ : am_M} {d ac as pc : Nat} {lv : List (Option am_V)} {st : List am_V} {h : am_H} {Q : Option am_V → am_H → Prop} {va : am_V} (hd : decode μ.2.1 pc = .ok (.pop, 1)) (hva : am_cat va = 1) (k : am_T g μ d ac as (pc + 1) lv st h Q) : am_T g μ d ac as pc lv (va :: st) h Q :=
  fun R mc ms p e s m args below meth c H locs cells slots ls hR hX hh hS hl h1 h2 => lv_pop hX.1 hX.2.1 (va := am_c g va) hd (by rw [am_cat_c]; exact hva) (k R mc ms p e s m args below meth c H locs cells slots ls hR hX hh hS hl h1 h2)
theorem am_dup_x1 {g : am_G} {μ : am_M} {d ac as pc : Nat} {lv : List (Option am_V)} {st : List am_V} {h : am_H} {Q : Option am_V → am_H → Prop} {va vb : am_V} (hd : decode μ.2.1 pc = .ok (.dup_x1, 1)) (hva : am_cat va = 1) (hvb : am_cat vb = 1) (k : am_T g μ d ac as (pc + 1) lv (va :: vb :: va :: st) h Q) : am_T g μ d ac as pc lv (va :: vb :: st) h Q :=
  fun R mc ms p e s m args below meth c H locs cells slots ls hR hX hh hS hl h1 h2 => lv_dup_x1 hX.1 hX.2.1 hd (by rw [am_cat_c]; exact hva) (by rw [am_cat_c]; exact hvb) (k R mc ms p e s m args below meth c H locs cells slots ls hR hX hh hS hl h1 h2)
theorem am_dup2 {g : am_G} {μ : am_M} {d ac as pc : Nat} {lv : List (Option am_V)} {st : List am_V} {h : am_H} {Q : Option am_V → am_H → Prop} {va vb : am_V} (hd : decode μ.2.1 pc = .ok (.dup2, 1)) (hva : am_cat va = 1) (hvb : am_cat vb = 1) (k : am_T g μ d ac as (pc + 1) lv (va :: vb :: va :: vb :: st) h Q) : am_T g μ d ac as pc lv (va :: vb :: st) h Q :=
  fun R mc ms p e s m args below meth c H locs cells slots ls hR hX hh hS hl h1 h2 => lv_dup2_11 hX.1 hX.2.1 hd (by rw [am_cat_c]; exact hva) (by rw [am_cat_c]; exact hvb) (k R mc ms p e s m args below meth c H locs cells slots ls hR hX hh hS hl h1 h2)
theorem am_dup_x2 {g : am_G} {μ : am_M} {d ac as pc : Nat} {lv : List (Option am_V)} {st : List am_V} {h : am_H} {Q : Option am_V → am_H → Prop} {va vb vc : am_V} (hd : decode μ.2.1 pc = .ok (.dup_x2, 1)) (hva : am_cat va = 1) (hvb : am_cat vb = 1) (hvc : am_cat vc = 1) (k : am_T g μ d ac as (pc + 1) lv (va :: vb :: vc :: va :: st) h Q) : am_T g μ d ac as pc lv (va :: vb :: vc :: st) h Q :=
  fun R mc ms p e s m args below meth c H locs cells slots ls hR hX hh hS hl h1 h2 => lv_dup_x2 hX.1 hX.2.1 hd (by rw [am_cat_c]; exact hva) (by rw [am_cat_c]; exact hvb) (by rw [am_cat_c]; exact hvc) (k R mc ms p e s m args below meth c H locs cells slots ls hR hX hh hS hl h1 h2)
theorem am_null {g : am_G} {μ : am_M} {d ac as pc : Nat} {lv : List (Option am_V)} {st : List am_V} {h : am_H} {Q : Option am_V → am_H → Prop}  (hd : decode μ.2.1 pc = .ok (.aconst_null, 1)) (k : am_T g μ d ac as (pc + 1) lv (am_N :: st) h Q) : am_T g μ d ac as pc lv st h Q :=
  fun R mc ms p e s m args below meth c H locs cells slots ls hR hX hh hS hl h1 h2 => lv_null hX.1 hX.2.1 hd (k R mc ms p e s m args below meth c H locs cells slots ls hR hX hh hS hl h1 h2)
theorem am_iload_n {g : am_G} {μ : am_M} {d ac as pc : Nat} {lv : List (Option am_V)} {st : List am_V} {h : am_H} {Q : Option am_V → am_H → Prop} {q : Fin 4} {i : Nat} {x : Int32} (hd : decode μ.2.1 pc = .ok (.iload_n q, 1)) (hi : (q : Nat) = i) (hv : lv[i]? = some (some (am_I x))) (k : am_T g μ d ac as (pc + 1) lv (am_I x :: st) h Q) : am_T g μ d ac as pc lv st h Q :=
  fun R mc ms p e s m args below meth c H locs cells slots ls hR hX hh hS hl h1 h2 => lv_iload_n hX.1 hX.2.1 hd hi (hl.2.2 _ _ hv).1 (k R mc ms p e s m args below meth c H locs cells slots ls hR hX hh hS hl h1 h2)
theorem am_iload {g : am_G} {μ : am_M} {d ac as pc : Nat} {lv : List (Option am_V)} {st : List am_V} {h : am_H} {Q : Option am_V → am_H → Prop} {i : Nat} {x : Int32} (hd : decode μ.2.1 pc = .ok (.iload i, 2)) (hv : lv[i]? = some (some (am_I x))) (k : am_T g μ d ac as (pc + 2) lv (am_I x :: st) h Q) : am_T g μ d ac as pc lv st h Q :=
  fun R mc ms p e s m args below meth c H locs cells slots ls hR hX hh hS hl h1 h2 => lv_iload hX.1 hX.2.1 hd (hl.2.2 _ _ hv).1 (k R mc ms p e s m args below meth c H locs cells slots ls hR hX hh hS hl h1 h2)
theorem am_aload_n {g : am_G} {μ : am_M} {d ac as pc : Nat} {lv : List (Option am_V)} {st : List am_V} {h : am_H} {Q : Option am_V → am_H → Prop} {q : Fin 4} {i r j : Nat} (hd : decode μ.2.1 pc = .ok (.aload_n q, 1)) (hi : (q : Nat) = i) (hv : lv[i]? = some (some (am_O r j))) (k : am_T g μ d ac as (pc + 1) lv (am_O r j :: st) h Q) : am_T g μ d ac as pc lv st h Q :=
  fun R mc ms p e s m args below meth c H locs cells slots ls hR hX hh hS hl h1 h2 => lv_aload_n hX.1 hX.2.1 hd hi (hl.2.2 _ _ hv).1 (k R mc ms p e s m args below meth c H locs cells slots ls hR hX hh hS hl h1 h2)
theorem am_aload {g : am_G} {μ : am_M} {d ac as pc : Nat} {lv : List (Option am_V)} {st : List am_V} {h : am_H} {Q : Option am_V → am_H → Prop} {i r j : Nat} (hd : decode μ.2.1 pc = .ok (.aload i, 2)) (hv : lv[i]? = some (some (am_O r j))) (k : am_T g μ d ac as (pc + 2) lv (am_O r j :: st) h Q) : am_T g μ d ac as pc lv st h Q :=
  fun R mc ms p e s m args below meth c H locs cells slots ls hR hX hh hS hl h1 h2 => lv_aload hX.1 hX.2.1 hd (hl.2.2 _ _ hv).1 (k R mc ms p e s m args below meth c H locs cells slots ls hR hX hh hS hl h1 h2)
theorem am_istore_n {g : am_G} {μ : am_M} {d ac as pc : Nat} {lv : List (Option am_V)} {st : List am_V} {h : am_H} {Q : Option am_V → am_H → Prop} {q : Fin 4} {i : Nat} {x : Int32} (hd : decode μ.2.1 pc = .ok (.istore_n q, 1)) (hi : (q : Nat) = i) (hn : i < μ.2.2.1) (k : am_T g μ d ac as (pc + 1) (lv.set i (some (am_I x))) st h Q) : am_T g μ d ac as pc lv (am_I x :: st) h Q :=
  fun R mc ms p e s m args below meth c H locs cells slots ls hR hX hh hS hl h1 h2 => lv_istore_n hX.1 hX.2.1 hd hi hl.has hn rfl (fun ls' h' => have hl' := am_Lv.put hl rfl rfl h'; k R mc ms p e s m args below meth c H locs cells slots ls' hR hX hh hS hl' h1 h2)
theorem am_istore {g : am_G} {μ : am_M} {d ac as pc : Nat} {lv : List (Option am_V)} {st : List am_V} {h : am_H} {Q : Option am_V → am_H → Prop} {i : Nat} {x : Int32} (hd : decode μ.2.1 pc = .ok (.istore i, 2)) (hn : i < μ.2.2.1) (k : am_T g μ d ac as (pc + 2) (lv.set i (some (am_I x))) st h Q) : am_T g μ d ac as pc lv (am_I x :: st) h Q :=
  fun R mc ms p e s m args below meth c H locs cells slots ls hR hX hh hS hl h1 h2 => lv_istore hX.1 hX.2.1 hd hl.has hn rfl (fun ls' h' => have hl' := am_Lv.put hl rfl rfl h'; k R mc ms p e s m args below meth c H locs cells slots ls' hR hX hh hS hl' h1 h2)
theorem am_astore_n {g : am_G} {μ : am_M} {d ac as pc : Nat} {lv : List (Option am_V)} {st : List am_V} {h : am_H} {Q : Option am_V → am_H → Prop} {q : Fin 4} {i : Nat} {r j : Nat} (hd : decode μ.2.1 pc = .ok (.astore_n q, 1)) (hi : (q : Nat) = i) (hn : i < μ.2.2.1) (k : am_T g μ d ac as (pc + 1) (lv.set i (some (am_O r j))) st h Q) : am_T g μ d ac as pc lv (am_O r j :: st) h Q :=
  fun R mc ms p e s m args below meth c H locs cells slots ls hR hX hh hS hl h1 h2 => lv_astore_n hX.1 hX.2.1 hd hi hl.has hn rfl (fun ls' h' => have hl' := am_Lv.put hl rfl rfl h'; k R mc ms p e s m args below meth c H locs cells slots ls' hR hX hh hS hl' h1 h2)
theorem am_astore {g : am_G} {μ : am_M} {d ac as pc : Nat} {lv : List (Option am_V)} {st : List am_V} {h : am_H} {Q : Option am_V → am_H → Prop} {i : Nat} {r j : Nat} (hd : decode μ.2.1 pc = .ok (.astore i, 2)) (hn : i < μ.2.2.1) (k : am_T g μ d ac as (pc + 2) (lv.set i (some (am_O r j))) st h Q) : am_T g μ d ac as pc lv (am_O r j :: st) h Q :=
  fun R mc ms p e s m args below meth c H locs cells slots ls hR hX hh hS hl h1 h2 => lv_astore hX.1 hX.2.1 hd hl.has hn rfl (fun ls' h' => have hl' := am_Lv.put hl rfl rfl h'; k R mc ms p e s m args below meth c H locs cells slots ls' hR hX hh hS hl' h1 h2)
theorem am_iinc {g : am_G} {μ : am_M} {d ac as pc : Nat} {lv : List (Option am_V)} {st : List am_V} {h : am_H} {Q : Option am_V → am_H → Prop} {i : Nat} {n : Int} {x v : Int32} (hd : decode μ.2.1 pc = .ok (.iinc i n, 3)) (hv : lv[i]? = some (some (am_I x))) (he : x + Int32.ofInt n = v) (hn : i < μ.2.2.1) (k : am_T g μ d ac as (pc + 3) (lv.set i (some (am_I v))) st h Q) : am_T g μ d ac as pc lv st h Q := by
  intro R mc ms p e s m args below meth c H locs cells slots ls hR hX hh hS hl h1 h2
  obtain ⟨j, hj⟩ := List.getElem?_of_mem (am_prs_in (g := g) hv)
  exact lv_iinc hX.1 hX.2.1 hd hl.has hj he hn rfl (fun ls' h' => have hl' := am_Lv.put (v := am_I v) hl rfl rfl h'; k R mc ms p e s m args below meth c H locs cells slots ls' hR hX hh hS hl' h1 h2)
/-! ===== rows: branches ===== -/
theorem am_if_eq {g : am_G} {μ : am_M} {d ac as pc : Nat} {lv : List (Option am_V)} {st : List am_V} {h : am_H} {Q : Option am_V → am_H → Prop} {x : Int32} {off : Int} {tgt : Nat} (hd : decode μ.2.1 pc = .ok (.ifCond .eq off, 3)) (ht : (pc : Int) + off = (tgt : Int)) (kt : x = 0 → am_T g μ d ac as tgt lv st h Q) (kf : ¬ x = 0 → am_T g μ d ac as (pc + 3) lv st h Q) : am_T g μ d ac as pc lv (am_I x :: st) h Q :=
  fun R mc ms p e s m args below meth c H locs cells slots ls hR hX hh hS hl h1 h2 => lv_if_eq hX.1 hX.2.1 hd ht (fun q => kt q R mc ms p e s m args below meth c H locs cells slots ls hR hX hh hS hl h1 h2) (fun q => kf q R mc ms p e s m args below meth c H locs cells slots ls hR hX hh hS hl h1 h2)
theorem am_icmp_eq {g : am_G} {μ : am_M} {d ac as pc : Nat} {lv : List (Option am_V)} {st : List am_V} {h : am_H} {Q : Option am_V → am_H → Prop} {x y : Int32} {off : Int} {tgt : Nat} (hd : decode μ.2.1 pc = .ok (.if_icmp .eq off, 3)) (ht : (pc : Int) + off = (tgt : Int)) (kt : x = y → am_T g μ d ac as tgt lv st h Q) (kf : ¬ x = y → am_T g μ d ac as (pc + 3) lv st h Q) : am_T g μ d ac as pc lv (am_I y :: am_I x :: st) h Q :=
  fun R mc ms p e s m args below meth c H locs cells slots ls hR hX hh hS hl h1 h2 => lv_icmp_eq hX.1 hX.2.1 hd ht (fun q => kt q R mc ms p e s m args below meth c H locs cells slots ls hR hX hh hS hl h1 h2) (fun q => kf q R mc ms p e s m args below meth c H locs cells slots ls hR hX hh hS hl h1 h2)
theorem am_if_ne {g : am_G} {μ : am_M} {d ac as pc : Nat} {lv : List (Option am_V)} {st : List am_V} {h : am_H} {Q : Option am_V → am_H → Prop} {x : Int32} {off : Int} {tgt : Nat} (hd : decode μ.2.1 pc = .ok (.ifCond .ne off, 3)) (ht : (pc : Int) + off = (tgt : Int)) (kt : ¬ x = 0 → am_T g μ d ac as tgt lv st h Q) (kf : x = 0 → am_T g μ d ac as (pc + 3) lv st h Q) : am_T g μ d ac as pc lv (am_I x :: st) h Q :=
  fun R mc ms p e s m args below meth c H locs cells slots ls hR hX hh hS hl h1 h2 => lv_if_ne hX.1 hX.2.1 hd ht (fun q => kt q R mc ms p e s m args below meth c H locs cells slots ls hR hX hh hS hl h1 h2) (fun q => kf q R mc ms p e s m args below meth c H locs cells slots ls hR hX hh hS hl h1 h2)
theorem am_icmp_ne {g : am_G} {μ : am_M} {d ac as pc : Nat} {lv : List (Option am_V)} {st : List am_V} {h : am_H} {Q : Option am_V → am_H → Prop} {x y : Int32} {off : Int} {tgt : Nat} (hd : decode μ.2.1 pc = .ok (.if_icmp .ne off, 3)) (ht : (pc : Int) + off = (tgt : Int)) (kt : ¬ x = y → am_T g μ d ac as tgt lv st h Q) (kf : x = y → am_T g μ d ac as (pc + 3) lv st h Q) : am_T g μ d ac as pc lv (am_I y :: am_I x :: st) h Q :=
  fun R mc ms p e s m args below meth c H locs cells slots ls hR hX hh hS hl h1 h2 => lv_icmp_ne hX.1 hX.2.1 hd ht (fun q => kt q R mc ms p e s m args below meth c H locs cells slots ls hR hX hh hS hl h1 h2) (fun q => kf q R mc ms p e s m args below meth c H locs cells slots ls hR hX hh hS hl h1 h2)
theorem am_if_lt {g : am_G} {μ : am_M} {d ac as pc : Nat} {lv : List (Option am_V)} {st : List am_V} {h : am_H} {Q : Option am_V → am_H → Prop} {x : Int32} {off : Int} {tgt : Nat} (hd : decode μ.2.1 pc = .ok (.ifCond .lt off, 3)) (ht : (pc : Int) + off = (tgt : Int)) (kt : x < 0 → am_T g μ d ac as tgt lv st h Q) (kf : ¬ x < 0 → am_T g μ d ac as (pc + 3) lv st h Q) : am_T g μ d ac as pc lv (am_I x :: st) h Q :=
  fun R mc ms p e s m args below meth c H locs cells slots ls hR hX hh hS hl h1 h2 => lv_if_lt hX.1 hX.2.1 hd ht (fun q => kt q R mc ms p e s m args below meth c H locs cells slots ls hR hX hh hS hl h1 h2) (fun q => kf q R mc ms p e s m args below meth c H locs cells slots ls hR hX hh hS hl h1 h2)
theorem am_icmp_lt {g : am_G} {μ : am_M} {d ac as pc : Nat} {lv : List (Option am_V)} {st : List am_V} {h : am_H} {Q : Option am_V → am_H → Prop} {x y : Int32} {off : Int} {tgt : Nat} (hd : decode μ.2.1 pc = .ok (.if_icmp .lt off, 3)) (ht : (pc : Int) + off = (tgt : Int)) (kt : x < y → am_T g μ d ac as tgt lv st h Q) (kf : ¬ x < y → am_T g μ d ac as (pc + 3) lv st h Q) : am_T g μ d ac as pc lv (am_I y :: am_I x :: st) h Q :=
  fun R mc ms p e s m args below meth c H locs cells slots ls hR hX hh hS hl h1 h2 => lv_icmp_lt hX.1 hX.2.1 hd ht (fun q => kt q R mc ms p e s m args below meth c H locs cells slots ls hR hX hh hS hl h1 h2) (fun q => kf q R mc ms p e s m args below meth c H locs cells slots ls hR hX hh hS hl h1 h2)
theorem am_if_ge {g : am_G} {μ : am_M} {d ac as pc : Nat} {lv : List (Option am_V)} {st : List am_V} {h : am_H} {Q : Option am_V → am_H → Prop} {x : Int32} {off : Int} {tgt : Nat} (hd : decode μ.2.1 pc = .ok (.ifCond .ge off, 3)) (ht : (pc : Int) + off = (tgt : Int)) (kt : 0 ≤ x → am_T g μ d ac as tgt lv st h Q) (kf : ¬ 0 ≤ x → am_T g μ d ac as (pc + 3) lv st h Q) : am_T g μ d ac as pc lv (am_I x :: st) h Q :=
  fun R mc ms p e s m args below meth c H locs cells slots ls hR hX hh hS hl h1 h2 => lv_if_ge hX.1 hX.2.1 hd ht (fun q => kt q R mc ms p e s m args below meth c H locs cells slots ls hR hX hh hS hl h1 h2) (fun q => kf q R mc ms p e s m args below meth c H locs cells slots ls hR hX hh hS hl h1 h2)
theorem am_icmp_ge {g : am_G} {μ : am_M} {d ac as pc : Nat} {lv : List (Option am_V)} {st : List am_V} {h : am_H} {Q : Option am_V → am_H → Prop} {x y : Int32} {off : Int} {tgt : Nat} (hd : decode μ.2.1 pc = .ok (.if_icmp .ge off, 3)) (ht : (pc : Int) + off = (tgt : Int)) (kt : y ≤ x → am_T g μ d ac as tgt lv st h Q) (kf : ¬ y ≤ x → am_T g μ d ac as (pc + 3) lv st h Q) : am_T g μ d ac as pc lv (am_I y :: am_I x :: st) h Q :=
  fun R mc ms p e s m args below meth c H locs cells slots ls hR hX hh hS hl h1 h2 => lv_icmp_ge hX.1 hX.2.1 hd ht (fun q => kt q R mc ms p e s m args below meth c H locs cells slots ls hR hX hh hS hl h1 h2) (fun q => kf q R mc ms p e s m args below meth c H locs cells slots ls hR hX hh hS hl h1 h2)
theorem am_if_gt {g : am_G} {μ : am_M} {d ac as pc : Nat} {lv : List (Option am_V)} {st : List am_V} {h : am_H} {Q : Option am_V → am_H → Prop} {x : Int32} {off : Int} {tgt : Nat} (hd : decode μ.2.1 pc = .ok (.ifCond .gt off, 3)) (ht : (pc : Int) + off = (tgt : Int)) (kt : 0 < x → am_T g μ d ac as tgt lv st h Q) (kf : ¬ 0 < x → am_T g μ d ac as (pc + 3) lv st h Q) : am_T g μ d ac as pc lv (am_I x :: st) h Q :=
  fun R mc ms p e s m args below meth c H locs cells slots ls hR hX hh hS hl h1 h2 => lv_if_gt hX.1 hX.2.1 hd ht (fun q => kt q R mc ms p e s m args below meth c H locs cells slots ls hR hX hh hS hl h1 h2) (fun q => kf q R mc ms p e s m args below meth c H locs cells slots ls hR hX hh hS hl h1 h2)
theorem am_icmp_gt {g : am_G} {μ : am_M} {d ac as pc : Nat} {lv : List (Option am_V)} {st : List am_V} {h : am_H} {Q : Option am_V → am_H → Prop} {x y : Int32} {off : Int} {tgt : Nat} (hd : decode μ.2.1 pc = .ok (.if_icmp .gt off, 3)) (ht : (pc : Int) + off = (tgt : Int)) (kt : y < x → am_T g μ d ac as tgt lv st h Q) (kf : ¬ y < x → am_T g μ d ac as (pc + 3) lv st h Q) : am_T g μ d ac as pc lv (am_I y :: am_I x :: st) h Q :=
  fun R mc ms p e s m args below meth c H locs cells slots ls hR hX hh hS hl h1 h2 => lv_icmp_gt hX.1 hX.2.1 hd ht (fun q => kt q R mc ms p e s m args below meth c H locs cells slots ls hR hX hh hS hl h1 h2) (fun q => kf q R mc ms p e s m args below meth c H locs cells slots ls hR hX hh hS hl h1 h2)
theorem am_if_le {g : am_G} {μ : am_M} {d ac as pc : Nat} {lv : List (Option am_V)} {st : List am_V} {h : am_H} {Q : Option am_V → am_H → Prop} {x : Int32} {off : Int} {tgt : Nat} (hd : decode μ.2.1 pc = .ok (.ifCond .le off, 3)) (ht : (pc : Int) + off = (tgt : Int)) (kt : x ≤ 0 → am_T g μ d ac as tgt lv st h Q) (kf : ¬ x ≤ 0 → am_T g μ d ac as (pc + 3) lv st h Q) : am_T g μ d ac as pc lv (am_I x :: st) h Q :=
  fun R mc ms p e s m args below meth c H locs cells slots ls hR hX hh hS hl h1 h2 => lv_if_le hX.1 hX.2.1 hd ht (fun q => kt q R mc ms p e s m args below meth c H locs cells slots ls hR hX hh hS hl h1 h2) (fun q => kf q R mc ms p e s m args below meth c H locs cells slots ls hR hX hh hS hl h1 h2)
theorem am_icmp_le {g : am_G} {μ : am_M} {d ac as pc : Nat} {lv : List (Option am_V)} {st : List am_V} {h : am_H} {Q : Option am_V → am_H → Prop} {x y : Int32} {off : Int} {tgt : Nat} (hd : decode μ.2.1 pc = .ok (.if_icmp .le off, 3)) (ht : (pc : Int) + off = (tgt : Int)) (kt : x ≤ y → am_T g μ d ac as tgt lv st h Q) (kf : ¬ x ≤ y → am_T g μ d ac as (pc + 3) lv st h Q) : am_T g μ d ac as pc lv (am_I y :: am_I x :: st) h Q :=
  fun R mc ms p e s m args below meth c H locs cells slots ls hR hX hh hS hl h1 h2 => lv_icmp_le hX.1 hX.2.1 hd ht (fun q => kt q R mc ms p e s m args below meth c H locs cells slots ls hR hX hh hS hl h1 h2) (fun q => kf q R mc ms p e s m args below meth c H locs cells slots ls hR hX hh hS hl h1 h2)
theorem am_goto {g : am_G} {μ : am_M} {d ac as pc : Nat} {lv : List (Option am_V)} {st : List am_V} {h : am_H} {Q : Option am_V → am_H → Prop} {off : Int} {tgt : Nat} (hd : decode μ.2.1 pc = .ok (.goto off, 3)) (ht : (pc : Int) + off = (tgt : Int)) (k : am_T g μ d ac as tgt lv st h Q) : am_T g μ d ac as pc lv st h Q :=
  fun R mc ms p e s m args below meth c H locs cells slots ls hR hX hh hS hl h1 h2 => lv_goto hX.1 hX.2.1 hd ht (k R mc ms p e s m args below meth c H locs cells slots ls hR hX hh hS hl h1 h2)
theorem am_lookup {g : am_G} {μ : am_M} {d ac as pc : Nat} {lv : List (Option am_V)} {st : List am_V} {h : am_H} {Q : Option am_V → am_H → Prop} {dflt : Int} {ps : Array (Int × Int)} {len : Nat} {x : Int32} {off : Int} {tgt : Nat} (hd : decode μ.2.1 pc = .ok (.lookupswitch dflt ps, len)) (hp : (ps.toList.zip (ps.toList.drop 1)).all (fun (a, next) => a.1 < next.1) = true) (ho : Op.lookupswitch.offset ps.toList dflt x.toInt = off) (ht : (pc : Int) + off = (tgt : Int)) (k : am_T g μ d ac as tgt lv st h Q) : am_T g μ d ac as pc lv (am_I x :: st) h Q :=
  fun R mc ms p e s m args below meth c H locs cells slots ls hR hX hh hS hl h1 h2 => lv_lookup hX.1 hX.2.1 hd hp ho ht (k R mc ms p e s m args below meth c H locs cells slots ls hR hX hh hS hl h1 h2)
theorem am_tableOut {g : am_G} {μ : am_M} {d ac as pc : Nat} {lv : List (Option am_V)} {st : List am_V} {h : am_H} {Q : Option am_V → am_H → Prop} {dflt lo hi : Int} {offs : Array Int} {len : Nat} {x : Int32} {tgt : Nat} (hd : decode μ.2.1 pc = .ok (.tableswitch dflt lo hi offs, len)) (ho : x.toInt < lo ∨ hi < x.toInt) (ht : (pc : Int) + dflt = (tgt : Int)) (k : am_T g μ d ac as tgt lv st h Q) : am_T g μ d ac as pc lv (am_I x :: st) h Q :=
  fun R mc ms p e s m args below meth c H locs cells slots ls hR hX hh hS hl h1 h2 => lv_tableOut hX.1 hX.2.1 hd ho ht (k R mc ms p e s m args below meth c H locs cells slots ls hR hX hh hS hl h1 h2)
theorem am_tableIn {g : am_G} {μ : am_M} {d ac as pc : Nat} {lv : List (Option am_V)} {st : List am_V} {h : am_H} {Q : Option am_V → am_H → Prop} {dflt lo hi : Int} {offs : Array Int} {len : Nat} {x : Int32} {off : Int} {tgt : Nat} (hd : decode μ.2.1 pc = .ok (.tableswitch dflt lo hi offs, len)) (hlo : ¬ x.toInt < lo) (hhi : ¬ hi < x.toInt) (ho : offs[(x.toInt - lo).toNat]? = some off) (ht : (pc : Int) + off = (tgt : Int)) (k : am_T g μ d ac as tgt lv st h Q) : am_T g μ d ac as pc lv (am_I x :: st) h Q :=
  fun R mc ms p e s m args below meth c H locs cells slots ls hR hX hh hS hl h1 h2 => lv_tableIn hX.1 hX.2.1 hd hlo hhi ho ht (k R mc ms p e s m args below meth c H locs cells slots ls hR hX hh hS hl h1 h2)
/-! ===== rows: constants ===== -/
theorem am_ldc {g : am_G} {μ : am_M} {d ac as pc : Nat} {lv : List (Option am_V)} {st : List am_V} {h : am_H} {Q : Option am_V → am_H → Prop} {idx : Nat} {v : Int32} (hd : decode μ.2.1 pc = .ok (.ldc idx, 2)) (hw : Cond.constant μ.1.cls idx v ∈ am_TW) (k : am_T g μ d ac as (pc + 2) lv (am_I v :: st) h Q) : am_T g μ d ac as pc lv st h Q :=
  fun R mc ms p e s m args below meth c H locs cells slots ls hR hX hh hS hl h1 h2 => lv_ldc hX.1 hX.2.1 hX.2.2.1 (hX.2.2.2.1 _ hw) hd (k R mc ms p e s m args below meth c H locs cells slots ls hR hX hh hS hl h1 h2)
theorem am_ldc2 {g : am_G} {μ : am_M} {d ac as pc : Nat} {lv : List (Option am_V)} {st : List am_V} {h : am_H} {Q : Option am_V → am_H → Prop} {idx : Nat} {v : Int64} (hd : decode μ.2.1 pc = .ok (.ldc2_w idx, 3)) (hw : Cond.constantLong μ.1.cls idx v ∈ am_TW) (k : am_T g μ d ac as (pc + 3) lv (am_J v :: st) h Q) : am_T g μ d ac as pc lv st h Q :=
  fun R mc ms p e s m args below meth c H locs cells slots ls hR hX hh hS hl h1 h2 => lv_ldc2 hX.1 hX.2.1 hX.2.2.1 (hX.2.2.2.1 _ hw) hd (k R mc ms p e s m args below meth c H locs cells slots ls hR hX hh hS hl h1 h2)
/-! ===== rows: returns ===== -/
theorem am_iret {g : am_G} {μ : am_M} {d ac as pc : Nat} {lv : List (Option am_V)} {st : List am_V} {h : am_H} {Q : Option am_V → am_H → Prop} {v : Int32} {ty : FieldType} (hr : μ.2.2.2 = some ty) (hn : narrow ty (.int v) = .int v) (hd : decode μ.2.1 pc = .ok (.ireturn, 1)) (hq : Q (some (am_I v)) h) : am_T g μ d ac as pc lv [am_I v] h Q :=
  fun R mc ms p e s m args below meth c H locs cells slots ls hR hX hh hS hl h1 h2 => W.widen (k := mc) (n := ms) (by omega) (by omega) (W.zret hX.1 hX.2.1 (hX.2.2.2.2.2.2.2.1.trans hr) hn (fun t ht hW => ⟨⟨(some (am_I v)), h, rfl, hq, by rw [ht]; exact hh⟩, hS.F ht⟩) hS.2.2 hd (hlocks := hX.2.2.2.2.2.2.2.2.1))
theorem am_lret {g : am_G} {μ : am_M} {d ac as pc : Nat} {lv : List (Option am_V)} {st : List am_V} {h : am_H} {Q : Option am_V → am_H → Prop} {v : Int64} (hr : μ.2.2.2 = some .long) (hd : decode μ.2.1 pc = .ok (.lreturn, 1)) (hq : Q (some (am_J v)) h) : am_T g μ d ac as pc lv [am_J v] h Q :=
  fun R mc ms p e s m args below meth c H locs cells slots ls hR hX hh hS hl h1 h2 => W.widen (k := mc) (n := ms) (by omega) (by omega) (W.lret hX.1 hX.2.1 (hX.2.2.2.2.2.2.2.1.trans hr) (fun t ht hW => ⟨⟨(some (am_J v)), h, rfl, hq, by rw [ht]; exact hh⟩, hS.F ht⟩) hS.2.2 hd (hlocks := hX.2.2.2.2.2.2.2.2.1))
theorem am_vret {g : am_G} {μ : am_M} {d ac as pc : Nat} {lv : List (Option am_V)} {st : List am_V} {h : am_H} {Q : Option am_V → am_H → Prop} (hr : μ.2.2.2 = none) (hd : decode μ.2.1 pc = .ok (.return_, 1)) (hq : Q none h) : am_T g μ d ac as pc lv [] h Q :=
  fun R mc ms p e s m args below meth c H locs cells slots ls hR hX hh hS hl h1 h2 => W.widen (k := mc) (n := ms) (by omega) (by omega) (W.vret hX.1 hX.2.1 (hX.2.2.2.2.2.2.2.1.trans hr) (fun t ht hW => ⟨⟨none, h, rfl, hq, by rw [ht]; exact hh⟩, hS.F ht⟩) hS.2.2 hd (hlocks := hX.2.2.2.2.2.2.2.2.1))
theorem am_aret {g : am_G} {μ : am_M} {d ac as pc : Nat} {lv : List (Option am_V)} {st : List am_V} {h : am_H} {Q : Option am_V → am_H → Prop} {r j : Nat} {ty : FieldType} (hr : μ.2.2.2 = some ty) (hn : (∃ n, ty = .object n) ∨ ∃ t, ty = .array t) (hd : decode μ.2.1 pc = .ok (.areturn, 1)) (hq : Q (some (am_O r j)) h) : am_T g μ d ac as pc lv [am_O r j] h Q :=
  fun R mc ms p e s m args below meth c H locs cells slots ls hR hX hh hS hl h1 h2 => W.widen (k := mc) (n := ms) (by omega) (by omega) (W.aret hX.1 hX.2.1 (hX.2.2.2.2.2.2.2.1.trans hr) hn (Or.inr ⟨_, rfl⟩) (fun t ht hW => ⟨⟨(some (am_O r j)), h, rfl, hq, by rw [ht]; exact hh⟩, hS.F ht⟩) hS.2.2 hd (hlocks := hX.2.2.2.2.2.2.2.2.1))
/-! ===== the heap: reading and writing ===== -/
def am_up (h : am_H) (r i k : Nat) (v : am_V) : am_H := (h.1, h.2.1, fun r' i' k' => if r' = r ∧ i' = i ∧ k' = k then v else h.2.2 r' i' k')
theorem am_up_row (h : am_H) (r i k : Nat) (v : am_V) (j : Nat) : (am_up h r i k v).2.2 r i j = if j = k then v else h.2.2 r i j := by
  by_cases hj : j = k <;> simp [am_up, hj]
theorem am_up_off (h : am_H) (r i k : Nat) (v : am_V) {r' i' : Nat} (hn : ¬ (r' = r ∧ i' = i)) : (am_up h r i k v).2.2 r' i' = h.2.2 r' i' := by
  funext j
  show (if r' = r ∧ i' = i ∧ j = k then v else h.2.2 r' i' j) = _
  rw [if_neg (fun q => hn ⟨q.1, q.2.1⟩)]
theorem am_at.kept {g : am_G} {kn : am_E} {m : Nat → am_V} {a : Nat} {H H1 : Heap} (h : am_at g kn m a H) (hq : H1[a]? = H[a]?) : am_at g kn m a H1 := by
  obtain ⟨k, n⟩ := kn
  cases k with
  | inl ci =>
    obtain ⟨q, h1, h2, h3⟩ := h
    exact ⟨q, h1, h2, h3.kept hq⟩
  | inr ty => exact hq.trans h
theorem am_at.lt {g : am_G} {kn : am_E} {m : Nat → am_V} {a : Nat} {H : Heap} (h : am_at g kn m a H) : a < H.size := by
  obtain ⟨k, n⟩ := kn
  cases k with
  | inl ci =>
    obtain ⟨q, h1, h2, cell, h3, -⟩ := h
    exact (Array.getElem?_eq_some_iff.mp h3).1
  | inr ty => exact (Array.getElem?_eq_some_iff.mp h).1
theorem am_R.set {g : am_G} {h : am_H} {H H1 : Heap} {r i k : Nat} {kn : am_E} {v : am_V} (hR : am_R g h H) (hk : h.2.1 r i = some kn) (hz : H1.size = H.size) (ho : ∀ q : Nat, q ≠ am_ad g r i → H1[q]? = H[q]?)
    (ha : am_at g kn ((am_up h r i k v).2.2 r i) (am_ad g r i) H1) : am_R g (am_up h r i k v) H1 := by
  obtain ⟨h1, h2, h3, h4, h5⟩ := hR
  have hge := (h4 r i kn hk).1
  refine ⟨by rw [hz]; exact h1, h2, by rw [ho _ (by omega)]; exact h3, fun r' i' kn' hk' => ?_, h5⟩
  have hk'' : h.2.1 r' i' = some kn' := hk'
  obtain ⟨g1, g2⟩ := h4 r' i' kn' hk''
  refine ⟨g1, ?_⟩
  by_cases he : r' = r ∧ i' = i
  · obtain ⟨rfl, rfl⟩ := he
    cases hk.symm.trans hk''
    exact ha
  · rw [am_up_off _ _ _ _ _ he]
    exact g2.kept (ho _ (fun q => he (h5 _ _ _ _ _ _ hk'' hk q)))
/-- a field by the pool: of the class itself, or of a nest mate -/
def am_FL (own : String) (idx ci k : Nat) : Prop := ∃ q : vw_C, am_cl[ci]? = some q ∧ k < q.2.2 ∧ (Cond.fieldLink own idx (q.2.1 k).1 (q.2.1 k).2.1 (q.2.1 k).2.2.1 ∈ am_TW ∨ ∃ host : String, (own, idx, (q.2.1 k).1, (q.2.1 k).2.1, (q.2.1 k).2.2.1, host) ∈ am_NF)
def am_fin (ci k : Nat) : Bool := match am_cl[ci]? with
  | some q => (q.2.1 k).2.2.2
  | none => true
def am_vok (ty : FieldType) (v : am_V) : Prop := ∀ g : am_G, narrow ty (am_c g v) = am_c g v ∧ fits ty (am_c g v) = true
theorem am_getf {g : am_G} {μ : am_M} {d ac as pc : Nat} {lv : List (Option am_V)} {st : List am_V} {h : am_H} {Q : Option am_V → am_H → Prop} {r i idx ci k n : Nat} {v : am_V} (hd : decode μ.2.1 pc = .ok (.getfield idx, 3)) (hf : am_FL μ.1.cls idx ci k) (hk : h.2.1 r i = some (.inl ci, n)) (hv : h.2.2 r i k = v) (kk : am_T g μ d ac as (pc + 3) lv (v :: st) h Q) : am_T g μ d ac as pc lv (am_O r i :: st) h Q := by
  intro R mc ms p e s m args below meth c H locs cells slots ls hR hX hh hS hl h1 h2
  obtain ⟨q, hq, hkn, hlk⟩ := hf
  obtain ⟨-, q', hq', -, cell, q1, q2, q3, q4⟩ := hh.2.2.2.1 r i _ hk
  cases hq.symm.trans hq'
  obtain ⟨hSl, hfc, kC, hkC, hkind⟩ := hX.2.2.2.2.1.1.1 ci _ hq
  obtain ⟨cf, kf, fi, f, hi, hsl⟩ := hSl k hkn
  have hst := (u_facts hfc hkC (u_lays hX.2.2.2.1 (am_cl_in hq) hkn) hi).1
  have hval : cell.slots[f.slot]? = some (am_c g v) := by
    rw [hsl, q4 k hkn]
    show some (am_c g (h.2.2 r i k)) = _
    rw [hv]
  rcases hlk with hw | ⟨host, hw⟩
  · exact W.getf hX.1 hX.2.1 hX.2.2.1 (hX.2.2.2.1 _ hw) hi hst q1 (by rw [q3]; exact fun z => by cases z) hval rfl rfl hd (kk R mc ms p e s m args below meth c H locs cells slots ls hR hX hh hS hl h1 h2)
  · exact va_Wgetf hX.1 hX.2.1 hX.2.2.1 (va_Nw.use rfl (hX.2.2.2.2.1.2.2.1 _ hw)) hi hst q1 (by rw [q3]; exact fun z => by cases z) hval rfl rfl hd (kk R mc ms p e s m args below meth c H locs cells slots ls hR hX hh hS hl h1 h2)
theorem am_putf {g : am_G} {μ : am_M} {d ac as pc : Nat} {lv : List (Option am_V)} {st : List am_V} {h : am_H} {Q : Option am_V → am_H → Prop} {r i idx ci k n : Nat} {v : am_V} (hd : decode μ.2.1 pc = .ok (.putfield idx, 3)) (hf : am_FL μ.1.cls idx ci k) (hk : h.2.1 r i = some (.inl ci, n)) (hfin : am_fin ci k = false) (hvk : am_vok (am_ty ci k) v) (kk : am_T g μ d ac as (pc + 3) lv st (am_up h r i k v) Q) : am_T g μ d ac as pc lv (v :: am_O r i :: st) h Q := by
  intro R mc ms p e s m args below meth c H locs cells slots ls hR hX hh hS hl h1 h2
  obtain ⟨q, hq, hkn, hlk⟩ := hf
  have hh0 := hh.2.2.2.1 r i _ hk
  obtain ⟨hge, q', hq', hn, cell, q1, q2, q3, q4⟩ := hh0
  cases hq.symm.trans hq'
  obtain ⟨hSl, hfc, kC, hkC, hkind⟩ := hX.2.2.2.2.1.1.1 ci _ hq
  obtain ⟨cf, kf, fi, f, hi, hsl⟩ := hSl k hkn
  have hst := (u_facts hfc hkC (u_lays hX.2.2.2.1 (am_cl_in hq) hkn) hi).1
  have hap := va_apart (own := μ.1.cls) hX.2.2.2.1 (am_cl_in hq) (am_ty ci) (am_cl_ty hq) (am_cl_nm hq) hX.2.2.2.2.1.1 hq
  have hlay := hX.2.2.2.1 _ (am_cl_in hq _ (u_in_lay hkn))
  unfold u_lay at hlay
  have hfin' : (q.2.1 k).2.2.2 = false := by simpa only [am_fin, hq] using hfin
  rw [if_neg (by rw [hfin']; decide)] at hlay
  have h6 := u_store hfc hkC hkind hlay hi (am_cl_ty hq k hkn) (hvk g).1 (hvk g).2
  have fin : ∀ H' : Heap, H'[am_ad g r i]? = some (cell.setSlot f.slot (am_c g v)) → H'.size = H.size → (∀ z, z ≠ am_ad g r i → H'[z]? = H[z]?) → W p (gm_l g) e R s m args below meth c H' (locs ++ [⟨am_ad g r i, f.slot⟩]) cells slots (MQ below (am_Qc g Q) args s mc ms (am_A g)) (F0 m (pc + 3) ls (st.map (am_c g))) := by
    intro H' e1 e2 e3
    rw [hsl] at e1
    have hh := hh.set (k := k) (v := v) hk e2 e3 ⟨q, hq, hn, t_OB.to (V := updV (fun j => am_c g (h.2.2 r i j)) k (am_c g v)) ⟨_, e1, q2, q3, t_set q4 hap hkn (am_c g v)⟩ (fun j _ => by
      rw [am_up_row]
      by_cases hj : j = k <;> simp [updV, hj])⟩
    have hS := hS.put (k := f.slot) e2 e3 hge
    exact kk R mc ms p e s m args below meth c H' (locs ++ [⟨am_ad g r i, f.slot⟩]) cells slots ls hR hX hh hS hl h1 h2
  rcases hlk with hw | ⟨host, hw⟩
  · exact W.putK hX.1 hX.2.1 (f := f) ⟨hX.2.2.1, hX.2.2.2.1 _ hw, ⟨_, _, _, hi⟩, hst⟩ (by rw [q2]; exact h6) q1 q3 (by rw [hsl]; exact k2_hasslot (q4 k hkn)) rfl rfl hd fin
  · exact va_WputK hX.1 hX.2.1 (f := f) hX.2.2.1 (va_Nw.use rfl (hX.2.2.2.2.1.2.2.1 _ hw)) hi hst (by rw [q2]; exact h6) q1 q3 (by rw [hsl]; exact k2_hasslot (q4 k hkn)) rfl rfl hd fin
theorem am_putF {g : am_G} {μ : am_M} {d ac as pc : Nat} {lv : List (Option am_V)} {st : List am_V} {h : am_H} {Q : Option am_V → am_H → Prop} {r i idx ci k n : Nat} {v : am_V} (hd : decode μ.2.1 pc = .ok (.putfield idx, 3)) (hf : ∃ q : vw_C, am_cl[ci]? = some q ∧ k < q.2.2 ∧ Cond.fieldLink μ.1.cls idx (q.2.1 k).1 (q.2.1 k).2.1 (q.2.1 k).2.2.1 ∈ am_TW ∧ (q.2.1 k).2.2.2 = true ∧ (q.2.1 k).1 = μ.1.cls) (hini : μ.1.name = "<init>") (hk : h.2.1 r i = some (.inl ci, n)) (hvk : am_vok (am_ty ci k) v) (kk : am_T g μ d ac as (pc + 3) lv st (am_up h r i k v) Q) : am_T g μ d ac as pc lv (v :: am_O r i :: st) h Q := by
  intro R mc ms p e s m args below meth c H locs cells slots ls hR hX hh hS hl h1 h2
  obtain ⟨q, hq, hkn, hw, hfin, hdecl⟩ := hf
  have hh0 := hh.2.2.2.1 r i _ hk
  obtain ⟨hge, q', hq', hn, cell, q1, q2, q3, q4⟩ := hh0
  cases hq.symm.trans hq'
  obtain ⟨hSl, hfc, kC, hkC, hkind⟩ := hX.2.2.2.2.1.1.1 ci _ hq
  obtain ⟨cf, kf, fi, f, hi, hsl⟩ := hSl k hkn
  have hst := (u_facts hfc hkC (u_lays hX.2.2.2.1 (am_cl_in hq) hkn) hi).1
  have hap := va_apart (own := μ.1.cls) hX.2.2.2.1 (am_cl_in hq) (am_ty ci) (am_cl_ty hq) (am_cl_nm hq) hX.2.2.2.2.1.1 hq
  have hlay := hX.2.2.2.1 _ (am_cl_in hq _ (u_in_lay hkn))
  unfold u_lay at hlay
  rw [if_pos hfin] at hlay
  have hcf : m.cls = cf := by
    obtain ⟨_, _, c', _, _, _, -, -, hf', -, -, -, hown2, -⟩ := Cond.laysFinal_spec hlay
    have e1 : c' = cf := by have := hi.symm.trans hf'; simp at this; exact this.1.symm
    rw [hdecl] at hown2
    rw [← e1]; exact Option.some.inj (hX.2.2.1.symm.trans hown2)
  have h6 := u_fits hfc hkC hkind (Or.inr hlay) hi (am_cl_ty hq k hkn) (hvk g).1 (hvk g).2
  refine W.putFinK hX.1 hX.2.1 hX.2.2.1 (hX.2.2.2.1 _ hw) hi hst hcf (hX.2.2.2.2.2.2.2.2.2 hini) (by rw [q2]; exact h6) q1 q3 (by rw [hsl]; exact k2_hasslot (q4 k hkn)) rfl rfl hd fun H' e1 e2 e3 => ?_
  rw [hsl] at e1
  have hh := hh.set (k := k) (v := v) hk e2 e3 ⟨q, hq, hn, t_OB.to (V := updV (fun j => am_c g (h.2.2 r i j)) k (am_c g v)) ⟨_, e1, q2, q3, t_set q4 hap hkn (am_c g v)⟩ (fun j _ => by
    rw [am_up_row]
    by_cases hj : j = k <;> simp [updV, hj])⟩
  have hS := hS.put (k := f.slot) e2 e3 hge
  exact kk R mc ms p e s m args below meth c H' (locs ++ [⟨am_ad g r i, f.slot⟩]) cells slots ls hR hX hh hS hl h1 h2
theorem am_inx {x : Int32} {j n : Nat} (hx : x = nI j) (hj : j < n) (hn : n < 2 ^ 31) : ¬ (x < 0 ∨ n ≤ x.toNatClampNeg) ∧ x.toNatClampNeg = j := by
  subst hx
  exact ⟨nI_in hj hn, nI_clamp (by omega)⟩
theorem am_iald {g : am_G} {μ : am_M} {d ac as pc : Nat} {lv : List (Option am_V)} {st : List am_V} {h : am_H} {Q : Option am_V → am_H → Prop} {r i j n : Nat} {x : Int32} {v : am_V} (hd : decode μ.2.1 pc = .ok (.iaload, 1)) (hk : h.2.1 r i = some (.inr .int, n)) (hx : x = nI j) (hj : j < n) (hn : n < 2 ^ 31) (hty : .int ∈ am_tys) (hv : h.2.2 r i j = v) (kk : am_T g μ d ac as (pc + 1) lv (v :: st) h Q) : am_T g μ d ac as pc lv (am_I x :: am_O r i :: st) h Q := by
  intro R mc ms p e s m args below meth c H locs cells slots ls hR hX hh hS hl h1 h2
  obtain ⟨-, hc⟩ := hh.2.2.2.1 r i _ hk
  obtain ⟨i1, i2⟩ := am_inx hx hj hn
  exact W.iald (v := am_c g v) hX.1 hX.2.1 hc ((hX.2.2.2.2.1.2.1 _ hty).1 n _) (fun z => by cases z) (by rw [arrV_size]; exact i1) (by rw [i2, arrV_read _ _ hj, hv]) rfl rfl hd (kk R mc ms p e s m args below meth c H locs cells slots ls hR hX hh hS hl h1 h2)
theorem am_zald {g : am_G} {μ : am_M} {d ac as pc : Nat} {lv : List (Option am_V)} {st : List am_V} {h : am_H} {Q : Option am_V → am_H → Prop} {r i j n : Nat} {x : Int32} {v : am_V} (hd : decode μ.2.1 pc = .ok (.baload, 1)) (hk : h.2.1 r i = some (.inr .boolean, n)) (hx : x = nI j) (hj : j < n) (hn : n < 2 ^ 31) (hty : .boolean ∈ am_tys) (hv : h.2.2 r i j = v) (kk : am_T g μ d ac as (pc + 1) lv (v :: st) h Q) : am_T g μ d ac as pc lv (am_I x :: am_O r i :: st) h Q := by
  intro R mc ms p e s m args below meth c H locs cells slots ls hR hX hh hS hl h1 h2
  obtain ⟨-, hc⟩ := hh.2.2.2.1 r i _ hk
  obtain ⟨i1, i2⟩ := am_inx hx hj hn
  exact W.zald (v := am_c g v) hX.1 hX.2.1 hc ((hX.2.2.2.2.1.2.1 _ hty).1 n _) (fun z => by cases z) (by rw [arrV_size]; exact i1) (by rw [i2, arrV_read _ _ hj, hv]) rfl rfl hd (kk R mc ms p e s m args below meth c H locs cells slots ls hR hX hh hS hl h1 h2)
theorem am_lald {g : am_G} {μ : am_M} {d ac as pc : Nat} {lv : List (Option am_V)} {st : List am_V} {h : am_H} {Q : Option am_V → am_H → Prop} {r i j n : Nat} {x : Int32} {v : am_V} (hd : decode μ.2.1 pc = .ok (.laload, 1)) (hk : h.2.1 r i = some (.inr .long, n)) (hx : x = nI j) (hj : j < n) (hn : n < 2 ^ 31) (hty : .long ∈ am_tys) (hv : h.2.2 r i j = v) (kk : am_T g μ d ac as (pc + 1) lv (v :: st) h Q) : am_T g μ d ac as pc lv (am_I x :: am_O r i :: st) h Q := by
  intro R mc ms p e s m args below meth c H locs cells slots ls hR hX hh hS hl h1 h2
  obtain ⟨-, hc⟩ := hh.2.2.2.1 r i _ hk
  obtain ⟨i1, i2⟩ := am_inx hx hj hn
  exact W.lald (v := am_c g v) hX.1 hX.2.1 hc ((hX.2.2.2.2.1.2.1 _ hty).1 n _) (fun z => by cases z) (by rw [arrV_size]; exact i1) (by rw [i2, arrV_read _ _ hj, hv]) rfl rfl hd (kk R mc ms p e s m args below meth c H locs cells slots ls hR hX hh hS hl h1 h2)
theorem am_aald {g : am_G} {μ : am_M} {d ac as pc : Nat} {lv : List (Option am_V)} {st : List am_V} {h : am_H} {Q : Option am_V → am_H → Prop} {r i j n : Nat} {x : Int32} {v : am_V} {ty : FieldType} (hd : decode μ.2.1 pc = .ok (.aaload, 1)) (hk : h.2.1 r i = some (.inr ty, n)) (hx : x = nI j) (hj : j < n) (hn : n < 2 ^ 31) (hty : ty ∈ am_tys) (href : ty.isReference = true) (hv : h.2.2 r i j = v) (kk : am_T g μ d ac as (pc + 1) lv (v :: st) h Q) : am_T g μ d ac as pc lv (am_I x :: am_O r i :: st) h Q := by
  intro R mc ms p e s m args below meth c H locs cells slots ls hR hX hh hS hl h1 h2
  obtain ⟨-, hc⟩ := hh.2.2.2.1 r i _ hk
  obtain ⟨i1, i2⟩ := am_inx hx hj hn
  exact W.aald (v := am_c g v) (ty := ty) hX.1 hX.2.1 hc ((hX.2.2.2.2.1.2.1 _ hty).1 n _) href (fun z => by cases z) (by rw [arrV_size]; exact i1) (by rw [i2, arrV_read _ _ hj, hv]) rfl rfl hd (kk R mc ms p e s m args below meth c H locs cells slots ls hR hX hh hS hl h1 h2)
theorem am_alen {g : am_G} {μ : am_M} {d ac as pc : Nat} {lv : List (Option am_V)} {st : List am_V} {h : am_H} {Q : Option am_V → am_H → Prop} {r i n : Nat} {ty : FieldType} (hd : decode μ.2.1 pc = .ok (.arraylength, 1)) (hk : h.2.1 r i = some (.inr ty, n)) (hty : ty ∈ am_tys) (kk : am_T g μ d ac as (pc + 1) lv (am_I (nI n) :: st) h Q) : am_T g μ d ac as pc lv (am_O r i :: st) h Q := by
  intro R mc ms p e s m args below meth c H locs cells slots ls hR hX hh hS hl h1 h2
  obtain ⟨-, hc⟩ := hh.2.2.2.1 r i _ hk
  exact W.alen (n := nI n) (ty := ty) hX.1 hX.2.1 hc ((hX.2.2.2.2.1.2.1 _ hty).1 n _) (by rw [arrV_size]; rfl) rfl rfl hd (kk R mc ms p e s m args below meth c H locs cells slots ls hR hX hh hS hl h1 h2)
theorem am_sld {g : am_G} {μ : am_M} {d ac as pc : Nat} {lv : List (Option am_V)} {st : List am_V} {h : am_H} {Q : Option am_V → am_H → Prop} {j L : Nat} {x y : Int32} (hd : decode μ.2.1 pc = .ok (.iaload, 1)) (hL : (gm_s g).slots.size = L) (hx : x = nI j) (hj : j < L) (hn : L < 2 ^ 31) (hv : (gm_s g).slots[j]? = some (.int y)) (kk : am_T g μ d ac as (pc + 1) lv (am_I y :: st) h Q) : am_T g μ d ac as pc lv (am_I x :: am_O 100 0 :: st) h Q := by
  intro R mc ms p e s m args below meth c H locs cells slots ls hR hX hh hS hl h1 h2
  obtain ⟨i1, i2⟩ := am_inx hx hj hn
  exact W.iald (v := .int y) hX.1 hX.2.1 hh.2.2.1 hX.2.2.2.2.1.2.2.2.2.2.1 hX.2.2.2.2.1.2.2.2.2.2.2.1 (by rw [hL]; exact i1) (by rw [i2]; exact hv) rfl rfl hd (kk R mc ms p e s m args below meth c H locs cells slots ls hR hX hh hS hl h1 h2)
theorem am_slen {g : am_G} {μ : am_M} {d ac as pc : Nat} {lv : List (Option am_V)} {st : List am_V} {h : am_H} {Q : Option am_V → am_H → Prop} {L : Nat} (hd : decode μ.2.1 pc = .ok (.arraylength, 1)) (hL : (gm_s g).slots.size = L) (kk : am_T g μ d ac as (pc + 1) lv (am_I (nI L) :: st) h Q) : am_T g μ d ac as pc lv (am_O 100 0 :: st) h Q := by
  intro R mc ms p e s m args below meth c H locs cells slots ls hR hX hh hS hl h1 h2
  exact W.alen (n := nI L) (ty := .int) hX.1 hX.2.1 hh.2.2.1 hX.2.2.2.2.1.2.2.2.2.2.1 (by rw [hL]; rfl) rfl rfl hd (kk R mc ms p e s m args below meth c H locs cells slots ls hR hX hh hS hl h1 h2)
theorem am_iast {g : am_G} {μ : am_M} {d ac as pc : Nat} {lv : List (Option am_V)} {st : List am_V} {h : am_H} {Q : Option am_V → am_H → Prop} {r i j n : Nat} {x : Int32} {y : Int32} (hd : decode μ.2.1 pc = .ok (.iastore, 1)) (hk : h.2.1 r i = some (.inr .int, n)) (hx : x = nI j) (hj : j < n) (hn : n < 2 ^ 31) (hty : .int ∈ am_tys) (kk : am_T g μ d ac as (pc + 1) lv st (am_up h r i j (am_I y)) Q) : am_T g μ d ac as pc lv (am_I y :: am_I x :: am_O r i :: st) h Q := by
  intro R mc ms p e s m args below meth c H locs cells slots ls hR hX hh hS hl h1 h2
  obtain ⟨hge, hc⟩ := hh.2.2.2.1 r i _ hk
  obtain ⟨i1, i2⟩ := am_inx hx hj hn
  refine W.iast hX.1 hX.2.1 hc ((hX.2.2.2.2.1.2.1 _ hty).1 n _) (fun z => by cases z) (by rw [arrV_size]; exact i1) rfl rfl hd fun H' e1 e2 e3 => ?_
  rw [i2, arrV_store] at e1
  have hh := hh.set (k := j) (v := am_I y) hk e2 e3 (by
    show H'[am_ad g r i]? = _
    rw [e1]
    congr 2
    funext z
    rw [am_up_row]
    by_cases hz : z = j <;> simp [updV, hz, am_c])
  have hS := hS.put (k := x.toNatClampNeg) e2 e3 hge
  exact kk R mc ms p e s m args below meth c H' _ cells slots ls hR hX hh hS hl h1 h2
theorem am_zast {g : am_G} {μ : am_M} {d ac as pc : Nat} {lv : List (Option am_V)} {st : List am_V} {h : am_H} {Q : Option am_V → am_H → Prop} {r i j n : Nat} {x : Int32} {y : Int32} (hd : decode μ.2.1 pc = .ok (.bastore, 1)) (hk : h.2.1 r i = some (.inr .boolean, n)) (hx : x = nI j) (hj : j < n) (hn : n < 2 ^ 31) (hty : .boolean ∈ am_tys) (hnr : narrow .boolean (.int y) = .int y) (kk : am_T g μ d ac as (pc + 1) lv st (am_up h r i j (am_I y)) Q) : am_T g μ d ac as pc lv (am_I y :: am_I x :: am_O r i :: st) h Q := by
  intro R mc ms p e s m args below meth c H locs cells slots ls hR hX hh hS hl h1 h2
  obtain ⟨hge, hc⟩ := hh.2.2.2.1 r i _ hk
  obtain ⟨i1, i2⟩ := am_inx hx hj hn
  refine W.zast hX.1 hX.2.1 hc ((hX.2.2.2.2.1.2.1 _ hty).1 n _) (fun z => by cases z) (by rw [arrV_size]; exact i1) rfl rfl hd fun H' e1 e2 e3 => ?_
  rw [hnr] at e1; rw [i2, arrV_store] at e1
  have hh := hh.set (k := j) (v := am_I y) hk e2 e3 (by
    show H'[am_ad g r i]? = _
    rw [e1]
    congr 2
    funext z
    rw [am_up_row]
    by_cases hz : z = j <;> simp [updV, hz, am_c])
  have hS := hS.put (k := x.toNatClampNeg) e2 e3 hge
  exact kk R mc ms p e s m args below meth c H' _ cells slots ls hR hX hh hS hl h1 h2
theorem am_last {g : am_G} {μ : am_M} {d ac as pc : Nat} {lv : List (Option am_V)} {st : List am_V} {h : am_H} {Q : Option am_V → am_H → Prop} {r i j n : Nat} {x : Int32} {y : Int64} (hd : decode μ.2.1 pc = .ok (.lastore, 1)) (hk : h.2.1 r i = some (.inr .long, n)) (hx : x = nI j) (hj : j < n) (hn : n < 2 ^ 31) (hty : .long ∈ am_tys) (kk : am_T g μ d ac as (pc + 1) lv st (am_up h r i j (am_J y)) Q) : am_T g μ d ac as pc lv (am_J y :: am_I x :: am_O r i :: st) h Q := by
  intro R mc ms p e s m args below meth c H locs cells slots ls hR hX hh hS hl h1 h2
  obtain ⟨hge, hc⟩ := hh.2.2.2.1 r i _ hk
  obtain ⟨i1, i2⟩ := am_inx hx hj hn
  refine W.last hX.1 hX.2.1 hc ((hX.2.2.2.2.1.2.1 _ hty).1 n _) (fun z => by cases z) (by rw [arrV_size]; exact i1) rfl rfl hd fun H' e1 e2 e3 => ?_
  rw [i2, arrV_store] at e1
  have hh := hh.set (k := j) (v := am_J y) hk e2 e3 (by
    show H'[am_ad g r i]? = _
    rw [e1]
    congr 2
    funext z
    rw [am_up_row]
    by_cases hz : z = j <;> simp [updV, hz, am_c])
  have hS := hS.put (k := x.toNatClampNeg) e2 e3 hge
  exact kk R mc ms p e s m args below meth c H' _ cells slots ls hR hX hh hS hl h1 h2
theorem am_aast {g : am_G} {μ : am_M} {d ac as pc : Nat} {lv : List (Option am_V)} {st : List am_V} {h : am_H} {Q : Option am_V → am_H → Prop} {r i j n r' i' ci n' : Nat} {x : Int32} {q : vw_C} (hd : decode μ.2.1 pc = .ok (.aastore, 1)) (hk : h.2.1 r i = some (.inr (.object q.1), n)) (hx : x = nI j) (hj : j < n) (hn : n < 2 ^ 31) (hty : .object q.1 ∈ am_tys) (hk' : h.2.1 r' i' = some (.inl ci, n')) (hq : am_cl[ci]? = some q) (kk : am_T g μ d ac as (pc + 1) lv st (am_up h r i j (am_O r' i')) Q) : am_T g μ d ac as pc lv (am_O r' i' :: am_I x :: am_O r i :: st) h Q := by
  intro R mc ms p e s m args below meth c H locs cells slots ls hR hX hh hS hl h1 h2
  obtain ⟨hge, hc⟩ := hh.2.2.2.1 r i _ hk
  obtain ⟨-, q', hq', -, cellV, g1, g2, g3, -⟩ := hh.2.2.2.1 r' i' _ hk'
  cases hq.symm.trans hq'
  obtain ⟨i1, i2⟩ := am_inx hx hj hn
  have hcls := (hX.2.2.2.2.1.1.1 ci _ hq).2
  obtain ⟨kA, comp, k1, k2, k3, -⟩ := (hX.2.2.2.2.1.2.1 _ hty).2
  have hcomp : comp = (gm_D g).1 ci := Option.some.inj (k3.symm.trans hcls.1)
  subst hcomp
  obtain ⟨kC, hkC, -⟩ := hcls.2
  refine W.aast hX.1 hX.2.1 hc (fun z hz => by cases hz) (fun z => by cases z) k1 k2 rfl hkC ⟨fun z => i1 (Or.inl z), by rw [arrV_size]; exact Nat.not_le.mp fun z => i1 (Or.inr z)⟩ g1 (fun z hz => by rw [g3] at hz; cases hz) (by rw [g2]; exact hkC) (by rw [g2]; exact va_assign hcls) rfl rfl hd fun H' e1 e2 e3 => ?_
  rw [i2, arrV_store] at e1
  have hh := hh.set (k := j) (v := am_O r' i') hk e2 e3 (by
    show H'[am_ad g r i]? = _
    rw [e1]
    congr 2
    funext z
    rw [am_up_row]
    by_cases hz : z = j <;> simp [updV, hz, am_c])
  have hS := hS.put (k := x.toNatClampNeg) e2 e3 hge
  exact kk R mc ms p e s m args below meth c H' _ cells slots ls hR hX hh hS hl h1 h2
/-! ===== the heap: new cells ===== -/
def am_nw (h : am_H) (r i : Nat) (kn : am_E) (z : Nat → am_V) : am_H := (h.1 + 1, (fun r' i' => if r' = r ∧ i' = i then some kn else h.2.1 r' i'), fun r' i' => if r' = r ∧ i' = i then z else h.2.2 r' i')
theorem am_R.new {g : am_G} {h : am_H} {H H1 : Heap} {r i : Nat} {kn : am_E} {z : Nat → am_V} (hR : am_R g h H) (hf : h.2.1 r i = none) (hr : r ≠ 100) (hp : am_pos r i = h.1) (hz : H1.size = H.size + 1) (ho : ∀ q : Nat, q < H.size → H1[q]? = H[q]?)
    (ha : am_at g kn z (am_ad g r i) H1) : am_R g (am_nw h r i kn z) H1 := by
  obtain ⟨h1, h2, h3, h4, h5⟩ := hR
  have had : am_ad g r i = H.size := by unfold am_ad; rw [if_neg hr, hp, h1]
  refine ⟨by rw [hz, h1]; rfl, h2, by rw [ho _ (by omega)]; exact h3, fun r' i' kn' hk' => ?_, fun a b a' b' x y hx hy hab => ?_⟩
  · by_cases he : r' = r ∧ i' = i
    · obtain ⟨rfl, rfl⟩ := he
      have e1 : (am_nw h r' i' kn z).2.1 r' i' = some kn := if_pos ⟨rfl, rfl⟩
      cases e1.symm.trans hk'
      refine ⟨by rw [had]; omega, ?_⟩
      show am_at g kn (if r' = r' ∧ i' = i' then z else h.2.2 r' i') _ _
      rw [if_pos ⟨rfl, rfl⟩]
      exact ha
    · have e1 : (am_nw h r i kn z).2.1 r' i' = h.2.1 r' i' := if_neg he
      obtain ⟨g1, g2⟩ := h4 r' i' kn' (e1.symm.trans hk')
      refine ⟨g1, ?_⟩
      show am_at g kn' (if r' = r ∧ i' = i then z else h.2.2 r' i') _ _
      rw [if_neg he]
      exact g2.kept (ho _ g2.lt)
  · have old : ∀ (a b : Nat) (x : am_E), ¬ (a = r ∧ b = i) → (am_nw h r i kn z).2.1 a b = some x → h.2.1 a b = some x := fun a b x hn hx => (if_neg hn : (am_nw h r i kn z).2.1 a b = h.2.1 a b).symm.trans hx
    by_cases ea : a = r ∧ b = i <;> by_cases eb : a' = r ∧ b' = i
    · exact ⟨ea.1.trans eb.1.symm, ea.2.trans eb.2.symm⟩
    · have := (h4 a' b' y (old _ _ _ eb hy)).2.lt
      rw [← hab, ea.1, ea.2, had] at this
      omega
    · have := (h4 a b x (old _ _ _ ea hx)).2.lt
      rw [hab, eb.1, eb.2, had] at this
      omega
    · exact h5 a b a' b' x y (old _ _ _ ea hx) (old _ _ _ eb hy) hab
theorem am_S.new {g : am_G} {H0 H H1 : Heap} {locs : List Loc} (hS : va_S (am_A g) H0 H locs) (hz : H1.size = H.size + 1) (ho : ∀ q : Nat, q < H.size → H1[q]? = H[q]?) : va_S (am_A g) H0 H1 locs :=
  ⟨Nat.le_trans hS.1 (by omega), fun x q1 q2 => (ho x (Nat.lt_of_lt_of_le q1 hS.1)).trans (hS.2.1 x q1 q2), hS.2.2⟩
def am_df (ty : FieldType) : am_V := match ty with
  | .object _ => am_N
  | .array _ => am_N
  | .long => am_J 0
  | _ => am_I 0
def am_small (ty : FieldType) : Prop := ∀ g : am_G, am_c g (am_df ty) = defaultValue ty
theorem am_new {g : am_G} {μ : am_M} {d ac as pc : Nat} {lv : List (Option am_V)} {st : List am_V} {h : am_H} {Q : Option am_V → am_H → Prop} {idx ci : Nat} {q : vw_C} (r i : Nat) (hd : decode μ.2.1 pc = .ok (.new idx, 3)) (hq : am_cl[ci]? = some q) (hcl : Cond.classLink μ.1.cls idx q.1 ∈ am_TW) (hin : Cond.instantiable q.1 q.2.2 ∈ am_TW) (hini : Cond.initialized q.1 ∈ am_TW) (hsm : ∀ k, k < q.2.2 → am_small (am_ty ci k)) (hf : h.2.1 r i = none) (hr : r ≠ 100) (hp : am_pos r i = h.1)
    (kk : am_T g μ d ac as (pc + 3) lv (am_O r i :: st) (am_nw h r i (.inl ci, q.2.2) (fun k => am_df (am_ty ci k))) Q) : am_T g μ d (ac + 1) (as + q.2.2) pc lv st h Q := by
  intro R mc ms p e s m args below meth c H locs cells slots ls hR hX hh hS hl h1 h2
  have hKn := hX.2.2.2.2.1.1.1 ci _ hq
  have had : H.size = am_ad g r i := by unfold am_ad; rw [if_neg hr, hp, hh.1]
  refine W.newcK hX.1 hX.2.1 hX.2.2.1 (hX.2.2.2.1 _ hcl) (hX.2.2.2.1 _ hin) (hX.2.2.2.1 _ hini) rfl hd (by omega) (by omega) hKn.2.1 rfl fun H1 kC hkC e1 z1 o1 => ?_
  have hob := u_born (am_ty ci) hX.2.2.2.1 (am_cl_in hq) hKn hkC e1 (am_cl_ty hq)
  have hh := hh.new (kn := (.inl ci, q.2.2)) (z := fun k => am_df (am_ty ci k)) hf hr hp z1 o1 ⟨q, hq, rfl, by rw [← had]; exact hob.to (fun k hk => (hsm k hk g).symm)⟩
  have hS := am_S.new hS z1 o1
  have := kk R mc ms p e s m args below meth c H1 locs (cells + 1) (slots + q.2.2) ls hR hX hh hS hl (by omega) (by omega)
  rw [show (am_O r i :: st).map (am_c g) = .ref H.size :: st.map (am_c g) by rw [had]; rfl] at this
  exact this
theorem am_newa {g : am_G} {μ : am_M} {d ac as pc : Nat} {lv : List (Option am_V)} {st : List am_V} {h : am_H} {Q : Option am_V → am_H → Prop} {N : Nat} {x : Int32} {at_ : ArrayType} {ty : FieldType} (r i : Nat) (hd : decode μ.2.1 pc = .ok (.newarray at_, 2)) (hat : newarray.typeOf at_ = ty) (hw : Cond.arrayClass ty ∈ am_TW) (hty : ty ∈ am_tys) (hRA : ∀ U : State, va_RA U (gm_A g ty) ty → U.vm.findClass ("[" ++ ty.toString) = some (gm_A g ty)) (hsm : am_small ty) (hx : x = nI N) (hb : N * componentBytes ty ≤ 536870912) (hN : N < 2 ^ 31) (hf : h.2.1 r i = none) (hr : r ≠ 100) (hp : am_pos r i = h.1)
    (kk : am_T g μ d ac as (pc + 2) lv (am_O r i :: st) (am_nw h r i (.inr ty, N) (fun _ => am_df ty)) Q) : am_T g μ d (ac + 1) (as + N) pc lv (am_I x :: st) h Q := by
  intro R mc ms p e s m args below meth c H locs cells slots ls hR hX hh hS hl h1 h2
  subst hat
  have had : H.size = am_ad g r i := by unfold am_ad; rw [if_neg hr, hp, hh.1]
  refine va_newaK (N := N) hX.1 hX.2.1 (hX.2.2.2.1 _ hw) rfl hd rfl (by rw [hx]; exact nI_pos hN) (by rw [hx]; exact nI_clamp hN) hb (by omega) (by omega) rfl fun H1 cA e1 z1 o1 hAr hNm => ?_
  have hcA : cA = gm_A g (newarray.typeOf at_) := Option.some.inj (hNm.symm.trans (hRA s (hX.2.2.2.2.1.2.1 _ hty).2))
  have hh := hh.new (kn := (.inr (newarray.typeOf at_), N)) (z := fun _ => am_df (newarray.typeOf at_)) hf hr hp z1 o1 (by
    show H1[am_ad g r i]? = _
    rw [← had, e1, hcA]
    show some (arrV _ N (fun _ => defaultValue _)) = some (arrV _ N (fun _ => am_c g (am_df _)))
    rw [hsm g])
  have hS := am_S.new hS z1 o1
  have := kk R mc ms p e s m args below meth c H1 locs (cells + 1) (slots + N) ls hR hX hh hS hl (by omega) (by omega)
  rw [show (am_O r i :: st).map (am_c g) = .ref H.size :: st.map (am_c g) by rw [had]; rfl] at this
  exact this
theorem am_anew {g : am_G} {μ : am_M} {d ac as pc : Nat} {lv : List (Option am_V)} {st : List am_V} {h : am_H} {Q : Option am_V → am_H → Prop} {N idx : Nat} {x : Int32} {C : String} (r i : Nat) (hd : decode μ.2.1 pc = .ok (.anewarray idx, 3)) (hcl : Cond.classLink μ.1.cls idx C ∈ am_TW) (hao : C ∈ am_AO) (hty : .object C ∈ am_tys) (hx : x = nI N) (hb : N * 4 ≤ 536870912) (hN : N < 2 ^ 31) (hf : h.2.1 r i = none) (hr : r ≠ 100) (hp : am_pos r i = h.1)
    (kk : am_T g μ d ac as (pc + 3) lv (am_O r i :: st) (am_nw h r i (.inr (.object C), N) (fun _ => am_N)) Q) : am_T g μ d (ac + 1) (as + N) pc lv (am_I x :: st) h Q := by
  intro R mc ms p e s m args below meth c H locs cells slots ls hR hX hh hS hl h1 h2
  have had : H.size = am_ad g r i := by unfold am_ad; rw [if_neg hr, hp, hh.1]
  have hcl0 : x.toNatClampNeg = N := by rw [hx]; exact nI_clamp hN
  refine W.anew hX.1 hX.2.1 hX.2.2.1 (hX.2.2.2.1 _ hcl) (va_AO.use (hX.2.2.2.2.1.2.2.2.2.1 _ hao)) rfl hd rfl (by rw [hx]; exact nI_pos hN) (by rw [hcl0]; exact hb) (by omega) (by rw [hcl0]; omega) fun cA kA comp f1 f2 f3 f4 => ?_
  rw [hcl0]
  obtain ⟨_, _, -, -, -, f5⟩ := (hX.2.2.2.2.1.2.1 _ hty).2
  have hcA : cA = gm_A g (.object C) := Option.some.inj (f1.symm.trans f5)
  generalize hH1 : H.push ({ cls := cA, slots := Array.replicate N .null, vm := .none } : Cell) = H1
  have z1 : H1.size = H.size + 1 := by rw [← hH1, Array.size_push]
  have e1 : H1[H.size]? = some (arrV cA N (fun _ => .null)) := by rw [← hH1, Array.getElem?_push_size, ← arrV_new]
  have o1 : ∀ q : Nat, q < H.size → H1[q]? = H[q]? := fun q hq => by rw [← hH1, Array.getElem?_push, if_neg (Nat.ne_of_lt hq)]
  have hh := hh.new (kn := (.inr (.object C), N)) (z := fun _ => am_N) hf hr hp z1 o1 (by
    show H1[am_ad g r i]? = _
    rw [← had, e1, hcA]
    rfl)
  have hS := am_S.new hS z1 o1
  have := kk R mc ms p e s m args below meth c H1 locs (cells + 1) (slots + N) ls hR hX hh hS hl (by omega) (by omega)
  rw [show (am_O r i :: st).map (am_c g) = .ref H.size :: st.map (am_c g) by rw [had]; rfl] at this
  exact this
/-! ===== calls ===== -/
def am_Ok (μ : am_M) (n : Nat) : Prop := am_cond μ ∈ am_TW ∧ Cond.initialized μ.1.cls ∈ am_TW ∧ μ.1.cls ≠ "java/lang/invoke/MethodHandle" ∧ μ.1.cls ≠ "java/lang/invoke/VarHandle" ∧ (parseMethodDescriptor μ.1.desc).map (fun d => d.parameters.length) = some n ∧ μ.2.2.1 ≤ 27
def am_LV (own : String) (idx : Nat) (μ : am_M) (n : Nat) : Prop := am_Ok μ n ∧ (Cond.methodLink own idx μ.1 ∈ am_TW ∨ ∃ host : String, (own, idx, μ.1, host) ∈ am_NM) ∧ Cond.instanceMethod μ.1 ∈ am_TW ∧ Cond.selects μ.1.cls μ.1 μ.1 ∈ am_TW
def am_LS (own : String) (idx : Nat) (μ : am_M) (n : Nat) : Prop := am_Ok μ n ∧ (Cond.methodLink own idx μ.1 ∈ am_TW ∨ ∃ host : String, (own, idx, μ.1, host) ∈ am_NM) ∧ Cond.static μ.1 ∈ am_TW
def am_LI (own : String) (idx : Nat) (μ : am_M) (n : Nat) : Prop := am_Ok μ n ∧ (Cond.methodLink own idx μ.1 ∈ am_TW ∨ ∃ host : String, (own, idx, μ.1, host) ∈ am_NM) ∧ Cond.instanceMethod μ.1 ∈ am_TW ∧ μ.1.name = "<init>" ∧ μ.2.2.2 = none
theorem am_goodTW {μ : am_M} {n : Nat} (h : am_Ok μ n) : GoodIn am_TW (am_ws μ) := fun w hw => by
  rcases List.mem_cons.mp hw with rfl | hw
  · exact ⟨h.1, am_TW_ok _ h.1⟩
  · exact ⟨hw, am_TW_ok _ hw⟩
theorem am_CB {g : am_G} {μ μ' : am_M} {p : Program} {s : State} {m : MethodId} {args : Array Value} {meth : Method} {c : Code} {R : Room} {d mc ms n idx : Nat} (hX : am_X g μ p s m args meth c) (ho : am_Ok μ' n) (hR : d + 1 ≤ R.frames ∧ 46 * (d + 1) ≤ R.locals) (hl : Cond.methodLink μ.1.cls idx μ'.1 ∈ am_TW) :
    CallB R s args μ.1.cls idx μ'.1 μ'.2.1 μ'.2.2.1 μ'.2.2.2 (am_ws μ') (am_rm d mc ms) mc ms n :=
  callB_of n hX.2.2.2.1 (am_goodTW ho) rfl rfl rfl (hX.2.2.2.1 _ ho.2.1) (hX.2.2.2.1 _ hl) ⟨ho.2.2.1, ho.2.2.2.1, ho.2.2.2.2.1⟩ ⟨hR.1, by have := ho.2.2.2.2.2; show 8 + (μ'.2.2.1 + 11) + 46 * d ≤ R.locals; omega⟩
theorem am_CN {g : am_G} {μ μ' : am_M} {p : Program} {s : State} {m : MethodId} {args : Array Value} {meth : Method} {c : Code} {R : Room} {d mc ms n idx : Nat} {host : String} (hX : am_X g μ p s m args meth c) (ho : am_Ok μ' n) (hR : d + 1 ≤ R.frames ∧ 46 * (d + 1) ≤ R.locals) (hl : (μ.1.cls, idx, μ'.1, host) ∈ am_NM) :
    va_CN R s args μ.1.cls idx μ'.1 host μ'.2.1 μ'.2.2.1 μ'.2.2.2 (am_ws μ') (am_rm d mc ms) mc ms n :=
  va_cnB n hX.2.2.2.1 (am_goodTW ho) rfl rfl rfl (hX.2.2.2.2.1.2.2.2.1 _ hl) (hX.2.2.2.1 _ ho.2.1) ⟨ho.2.2.1, ho.2.2.2.1, ho.2.2.2.2.1⟩ ⟨hR.1, by have := ho.2.2.2.2.2; show 8 + (μ'.2.2.1 + 11) + 46 * d ≤ R.locals; omega⟩
/-- behind a call -/
theorem am_back {g : am_G} {μ : am_M} {d ac as pc : Nat} {lv : List (Option am_V)} {rest : List am_V} {h : am_H} {Q : Option am_V → am_H → Prop} {R : Room} {mc ms mc' ms' : Nat} {p : Program} {e : Env} {s : State} {m : MethodId} {args : Array Value} {below : List Frame} {meth : Method} {c : Code} {H : Heap} {locs : List Loc} {cells slots : Nat} {ls : Array Slot} {st0 : List Value} {a : Array Value}
    (hR : d ≤ R.frames ∧ 46 * d ≤ R.locals ∧ mc ≤ R.cells ∧ ms ≤ R.slots) (hX : am_X g μ p s m args meth c) (hS : va_S (am_A g) s.heap H locs) (hl : am_Lv g ls μ.2.2.1 lv) (h1 : cells + mc' + ac ≤ mc) (h2 : slots + ms' + as ≤ ms)
    (hr : va_Run p (gm_l g) e R s m args below meth c H locs cells slots mc' ms' (F0 m pc ls st0) (rest.map (am_c g)) (am_Qc g (fun v h' => am_T g μ d ac as (pc + 3) lv (v.toList ++ rest) h' Q) a) (am_A g)) :
    W p (gm_l g) e R s m args below meth c H locs cells slots (MQ below (am_Qc g Q) args s mc ms (am_A g)) (F0 m pc ls st0) := by
  intro T hT X
  obtain ⟨v, st₀, t, T', L, h0, X', hL, e1, e2, ⟨⟨v', h', hv, hk, hh⟩, hz, hkp⟩, st⟩ := hr T hT X
  cases hv
  rw [h0] at hz hkp
  have hS' : va_S (am_A g) s.heap T'.heap (locs ++ L) := ⟨Nat.le_trans hS.1 (by rw [e1]; exact hz), fun q q1 q2 => by rw [e1, hkp q (Nat.lt_of_lt_of_le q1 hS.1) q2]; exact hS.2.1 q q1 q2, fun q hq => by
    rcases List.mem_append.mp hq with z | z
    · exact hS.2.2 q z
    · exact hL q z⟩
  have hh' : am_R g h' T'.heap := by rw [e1]; exact hh
  have hs : (v'.toList ++ rest).map (am_c g) = (v'.map (am_c g)).toList ++ rest.map (am_c g) := by cases v' <;> rfl
  have := hk R mc ms p e s m args below meth c T'.heap (locs ++ L) (cells + mc') (slots + ms') ls hR hX hh' hS' hl (by omega) (by omega)
  rw [hs] at this
  obtain ⟨t2, a1, b1⟩ := this T' rfl X'
  exact ⟨t2, st t2 a1, b1⟩
theorem am_callV {g : am_G} {μ μ' : am_M} {d ac as ac' as' mc' ms' pc n idx : Nat} {lv : List (Option am_V)} {st rest xs : List am_V} {h : am_H} {Q : Option am_V → am_H → Prop} {r i ci nn : Nat} {q : vw_C} (hd : decode μ.2.1 pc = .ok (.invokevirtual idx, 3)) (hlk : am_LV μ.1.cls idx μ' n) (hk : h.2.1 r i = some (.inl ci, nn)) (hq : am_cl[ci]? = some q) (hqc : q.1 = μ'.1.cls) (hn : xs.length = n) (hst : st = xs.reverse ++ am_O r i :: rest) (hw : (rest.map am_cat).sum ≤ 8) (hac : mc' + ac' = ac) (has : ms' + as' = as)
    (hC : am_C g μ' d mc' ms' (am_O r i :: xs) h (fun v h' => am_T g μ (d + 1) ac' as' (pc + 3) lv (v.toList ++ rest) h' Q)) : am_T g μ (d + 1) ac as pc lv st h Q := by
  intro R mc ms p e s m args below meth c H locs cells slots ls hR hX hh hS hl h1 h2
  subst hac; subst has; subst hst
  obtain ⟨ho, hl0, hin, hse⟩ := hlk
  obtain ⟨-, q', hq', -, cell, q1, q2, q3, q4⟩ := hh.2.2.2.1 r i _ hk
  cases hq.symm.trans hq'
  have hrec : ∃ cellB : Cell, H[am_ad g r i]? = some cellB ∧ cellB.vm.isStatics = false ∧ s.vm.findClass μ'.1.cls = some cellB.cls := ⟨cell, q1, by rw [q3]; rfl, by rw [q2, ← hqc]; exact (hX.2.2.2.2.1.1.1 ci _ hq).2.1⟩
  have hpre : PreV s H μ'.1.cls (am_ad g r i) (fun a U => a = ((am_O r i :: xs).map (am_c g)).toArray ∧ am_K g U ∧ am_R g h U.heap) (xs.map (am_c g)) := ⟨am_blind g _ h, hrec, fun U hU hW => ⟨rfl, am_K.moved hW hX.2.2.2.2.1, by rw [hU]; exact hh⟩⟩
  have hstk : (F0 m pc ls ((xs.reverse ++ am_O r i :: rest).map (am_c g))).stack = (xs.map (am_c g)).reverse ++ .ref (am_ad g r i) :: rest.map (am_c g) := by
    show (xs.reverse ++ am_O r i :: rest).map (am_c g) = _
    rw [List.map_append, List.map_reverse]
    rfl
  have hW : 2 * (F0 m pc ls ((xs.reverse ++ am_O r i :: rest).map (am_c g))).monitorRoom + ((rest.map (am_c g)).map fun v => v.category).sum ≤ 8 := by
    rw [am_cat_sum]
    show 2 * 0 + _ ≤ 8
    omega
  refine am_back (rest := rest) (mc' := mc') (ms' := ms') (ac := ac') (as := as') (h := h) (a := (Value.ref (am_ad g r i) :: xs.map (am_c g)).toArray) hR hX hS hl (by omega) (by omega) ?_
  rcases hl0 with hl0 | ⟨host, hl0⟩
  · exact va_runV (As := xs.map (am_c g)) (rest := rest.map (am_c g)) ⟨hX.1, hX.2.1, hX.2.2.2.2.2.2.1, hX.2.2.1, hX.2.2.2.1⟩ hC ⟨am_CB hX ho ⟨hR.1, hR.2.1⟩ hl0, hX.2.2.2.1 _ hin, hX.2.2.2.1 _ hse⟩ hpre rfl (by rw [List.length_map]; exact hn) hl.1 hstk hW hd ⟨by omega, by omega⟩
  · exact va_runVN (As := xs.map (am_c g)) (rest := rest.map (am_c g)) ⟨hX.1, hX.2.1, hX.2.2.2.2.2.2.1, hX.2.2.1, hX.2.2.2.1⟩ hC ⟨am_CN hX ho ⟨hR.1, hR.2.1⟩ hl0, hX.2.2.2.1 _ hin, hX.2.2.2.1 _ hse⟩ hpre rfl (by rw [List.length_map]; exact hn) hl.1 hstk hW hd ⟨by omega, by omega⟩
theorem am_callS {g : am_G} {μ μ' : am_M} {d ac as ac' as' mc' ms' pc n idx : Nat} {lv : List (Option am_V)} {st rest xs : List am_V} {h : am_H} {Q : Option am_V → am_H → Prop} (hd : decode μ.2.1 pc = .ok (.invokestatic idx, 3)) (hlk : am_LS μ.1.cls idx μ' n) (hn : xs.length = n) (hst : st = xs.reverse ++ rest) (hw : (rest.map am_cat).sum ≤ 8) (hac : mc' + ac' = ac) (has : ms' + as' = as)
    (hC : am_C g μ' d mc' ms' xs h (fun v h' => am_T g μ (d + 1) ac' as' (pc + 3) lv (v.toList ++ rest) h' Q)) : am_T g μ (d + 1) ac as pc lv st h Q := by
  intro R mc ms p e s m args below meth c H locs cells slots ls hR hX hh hS hl h1 h2
  subst hac; subst has; subst hst
  obtain ⟨ho, hl0, hsta⟩ := hlk
  have hpre : PreS s H (fun a U => a = (xs.map (am_c g)).toArray ∧ am_K g U ∧ am_R g h U.heap) (xs.map (am_c g)) := ⟨am_blind g _ h, fun U hU hW => ⟨rfl, am_K.moved hW hX.2.2.2.2.1, by rw [hU]; exact hh⟩⟩
  have hstk : (F0 m pc ls ((xs.reverse ++ rest).map (am_c g))).stack = (xs.map (am_c g)).reverse ++ rest.map (am_c g) := by
    show (xs.reverse ++ rest).map (am_c g) = _
    rw [List.map_append, List.map_reverse]
  have hW : 2 * (F0 m pc ls ((xs.reverse ++ rest).map (am_c g))).monitorRoom + ((rest.map (am_c g)).map fun v => v.category).sum ≤ 8 := by
    rw [am_cat_sum]
    show 2 * 0 + _ ≤ 8
    omega
  refine am_back (rest := rest) (mc' := mc') (ms' := ms') (ac := ac') (as := as') (h := h) (a := (xs.map (am_c g)).toArray) hR hX hS hl (by omega) (by omega) ?_
  rcases hl0 with hl0 | ⟨host, hl0⟩
  · exact va_runS (As := xs.map (am_c g)) (rest := rest.map (am_c g)) ⟨hX.1, hX.2.1, hX.2.2.2.2.2.2.1, hX.2.2.1, hX.2.2.2.1⟩ hC ⟨am_CB hX ho ⟨hR.1, hR.2.1⟩ hl0, hX.2.2.2.1 _ hsta⟩ hpre rfl (by rw [List.length_map]; exact hn) hl.1 hstk hW hd ⟨by omega, by omega⟩
  · exact va_runSN (As := xs.map (am_c g)) (rest := rest.map (am_c g)) ⟨hX.1, hX.2.1, hX.2.2.2.2.2.2.1, hX.2.2.1, hX.2.2.2.1⟩ hC ⟨am_CN hX ho ⟨hR.1, hR.2.1⟩ hl0, hX.2.2.2.1 _ hsta, trivial⟩ hpre rfl (by rw [List.length_map]; exact hn) hl.1 hstk hW hd ⟨by omega, by omega⟩
theorem am_callI {g : am_G} {μ μ' : am_M} {d ac as ac' as' mc' ms' pc n idx : Nat} {lv : List (Option am_V)} {st rest xs : List am_V} {h : am_H} {Q : Option am_V → am_H → Prop} {r i : Nat} (hd : decode μ.2.1 pc = .ok (.invokespecial idx, 3)) (hlk : am_LI μ.1.cls idx μ' n) (hn : xs.length = n) (hst : st = xs.reverse ++ am_O r i :: rest) (hw : (rest.map am_cat).sum ≤ 8) (hac : mc' + ac' = ac) (has : ms' + as' = as)
    (hC : am_C g μ' d mc' ms' (am_O r i :: xs) h (fun v h' => am_T g μ (d + 1) ac' as' (pc + 3) lv (v.toList ++ rest) h' Q)) : am_T g μ (d + 1) ac as pc lv st h Q := by
  intro R mc ms p e s m args below meth c H locs cells slots ls hR hX hh hS hl h1 h2
  subst hac; subst has; subst hst
  obtain ⟨ho, hl0, hin, hy, hrt⟩ := hlk
  have hpre : PreS s H (fun a U => a = ((am_O r i :: xs).map (am_c g)).toArray ∧ am_K g U ∧ am_R g h U.heap) (.ref (am_ad g r i) :: xs.map (am_c g)) := ⟨am_blind g _ h, fun U hU hW => ⟨rfl, am_K.moved hW hX.2.2.2.2.1, by rw [hU]; exact hh⟩⟩
  have hstk : (F0 m pc ls ((xs.reverse ++ am_O r i :: rest).map (am_c g))).stack = (xs.map (am_c g)).reverse ++ .ref (am_ad g r i) :: rest.map (am_c g) := by
    show (xs.reverse ++ am_O r i :: rest).map (am_c g) = _
    rw [List.map_append, List.map_reverse]
    rfl
  have hW : 2 * (F0 m pc ls ((xs.reverse ++ am_O r i :: rest).map (am_c g))).monitorRoom + ((rest.map (am_c g)).map fun v => v.category).sum ≤ 8 := by
    rw [am_cat_sum]
    show 2 * 0 + _ ≤ 8
    omega
  refine am_back (rest := rest) (mc' := mc') (ms' := ms') (ac := ac') (as := as') (h := h) (a := (Value.ref (am_ad g r i) :: xs.map (am_c g)).toArray) hR hX hS hl (by omega) (by omega) ?_
  obtain ⟨y, cc, ml, rt⟩ := μ'
  dsimp only at hrt
  subst hrt
  rcases hl0 with hl0 | ⟨host, hl0⟩
  · exact va_runI (As := xs.map (am_c g)) (rest := rest.map (am_c g)) ⟨hX.1, hX.2.1, hX.2.2.2.2.2.2.1, hX.2.2.1, hX.2.2.2.1⟩ hC ⟨am_CB (μ' := (y, cc, ml, none)) hX ho ⟨hR.1, hR.2.1⟩ hl0, hy, hX.2.2.2.1 _ hin⟩ hpre rfl (by rw [List.length_map]; exact hn) hl.1 hstk hW hd ⟨by omega, by omega⟩
  · exact va_runIN (As := xs.map (am_c g)) (rest := rest.map (am_c g)) ⟨hX.1, hX.2.1, hX.2.2.2.2.2.2.1, hX.2.2.1, hX.2.2.2.1⟩ hC ⟨am_CN (μ' := (y, cc, ml, none)) hX ho ⟨hR.1, hR.2.1⟩ hl0, hy, hX.2.2.2.1 _ hin⟩ hpre rfl (by rw [List.length_map]; exact hn) hl.1 hstk hW hd ⟨by omega, by omega⟩
theorem am_objInit {g : am_G} {μ : am_M} {d ac as pc : Nat} {lv : List (Option am_V)} {st : List am_V} {h : am_H} {Q : Option am_V → am_H → Prop} {r i idx : Nat} (hd : decode μ.2.1 pc = .ok (.invokespecial idx, 3)) (hlk : Cond.methodLink μ.1.cls idx objectInit ∈ am_TW) (hin : Cond.instanceMethod objectInit ∈ am_TW) (hcd : Cond.code objectInit ⟨#[0xb1]⟩ 1 none ∈ am_TW) (h0 : 1 ≤ d) (hw : (st.map am_cat).sum ≤ 8) (k : am_T g μ d ac as (pc + 3) lv st h Q) : am_T g μ d ac as pc lv (am_O r i :: st) h Q := by
  intro R mc ms p e s m args below meth c H locs cells slots ls hR hX hh hS hl h1 h2
  refine W.objInit hX.1 hX.2.1 hX.2.2.1 (hX.2.2.2.1 _ hlk) (hX.2.2.2.1 _ hin) (hX.2.2.2.1 _ hcd) rfl (by rw [hX.2.2.2.2.2.2.1]; exact hl.1) rfl hd (by omega) ?_ (k R mc ms p e s m args below meth c H locs cells slots ls hR hX hh hS hl h1 h2)
  show 2 * 0 + ((st.map (am_c g)).map fun v => v.category).sum + 12 ≤ R.locals
  rw [am_cat_sum]
  omega
theorem am_mmax {g : am_G} {μ : am_M} {d ac as pc : Nat} {lv : List (Option am_V)} {st : List am_V} {h : am_H} {Q : Option am_V → am_H → Prop} {idx : Nat} {x y : Int32} (hd : decode μ.2.1 pc = .ok (.invokestatic idx, 3)) (hlk : Cond.methodLink μ.1.cls idx Lib.Math.max.name ∈ am_TW) (hsta : Cond.static Lib.Math.max.name ∈ am_TW) (hini : Cond.initialized "java/lang/Math" ∈ am_TW) (hcd : Cond.code Lib.Math.max.name Lib.Math.max.code 2 (some .int) ∈ am_TW) (h0 : 1 ≤ d) (hw : (st.map am_cat).sum ≤ 8) (k : am_T g μ d ac as (pc + 3) lv (am_I (if x < y then y else x) :: st) h Q) : am_T g μ d ac as pc lv (am_I y :: am_I x :: st) h Q := by
  intro R mc ms p e s m args below meth c H locs cells slots ls hR hX hh hS hl h1 h2
  refine va_mmax hX.1 hX.2.1 (by rw [hX.2.2.2.2.2.2.1]; exact hl.1.symm) hX.2.2.1 (hX.2.2.2.1 _ hlk) (hX.2.2.2.1 _ hsta) (hX.2.2.2.1 _ hini) (hX.2.2.2.1 _ hcd) (by omega) ?_ (by omega) (by omega) hd (k R mc ms p e s m args below meth c H locs cells slots ls hR hX hh hS hl h1 h2)
  rw [am_cat_sum]
  omega
