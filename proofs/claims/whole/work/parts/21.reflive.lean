theorem am_ishl {g : am_G} {μ : am_M} {d ac as pc : Nat} {lv : List (Option am_V)} {st : List am_V} {h : am_H} {Q : Option am_V → am_H → Prop} {x y : Int32} (hd : decode μ.2.1 pc = .ok (.ishl, 1)) (k : am_T g μ d ac as (pc + 1) lv (am_I (x <<< (y &&& 31)) :: st) h Q) : am_T g μ d ac as pc lv (am_I y :: am_I x :: st) h Q :=
  fun R mc ms p e s m args below meth c H locs cells slots ls hR hX hh hS hl h1 h2 => lv_ishl hX.1 hX.2.1 hd (k R mc ms p e s m args below meth c H locs cells slots ls hR hX hh hS hl h1 h2)
theorem am_ishr {g : am_G} {μ : am_M} {d ac as pc : Nat} {lv : List (Option am_V)} {st : List am_V} {h : am_H} {Q : Option am_V → am_H → Prop} {x y : Int32} (hd : decode μ.2.1 pc = .ok (.ishr, 1)) (k : am_T g μ d ac as (pc + 1) lv (am_I (x >>> (y &&& 31)) :: st) h Q) : am_T g μ d ac as pc lv (am_I y :: am_I x :: st) h Q :=
  fun R mc ms p e s m args below meth c H locs cells slots ls hR hX hh hS hl h1 h2 => lv_ishr hX.1 hX.2.1 hd (k R mc ms p e s m args below meth c H locs cells slots ls hR hX hh hS hl h1 h2)
theorem am_idiv {g : am_G} {μ : am_M} {d ac as pc : Nat} {lv : List (Option am_V)} {st : List am_V} {h : am_H} {Q : Option am_V → am_H → Prop} {x y : Int32} (hd : decode μ.2.1 pc = .ok (.idiv, 1)) (hz : ¬ y = 0) (k : am_T g μ d ac as (pc + 1) lv (am_I (x / y) :: st) h Q) : am_T g μ d ac as pc lv (am_I y :: am_I x :: st) h Q :=
  fun R mc ms p e s m args below meth c H locs cells slots ls hR hX hh hS hl h1 h2 => lv_idiv hX.1 hX.2.1 hd hz (k R mc ms p e s m args below meth c H locs cells slots ls hR hX hh hS hl h1 h2)
theorem am_irem {g : am_G} {μ : am_M} {d ac as pc : Nat} {lv : List (Option am_V)} {st : List am_V} {h : am_H} {Q : Option am_V → am_H → Prop} {x y : Int32} (hd : decode μ.2.1 pc = .ok (.irem, 1)) (hz : ¬ y = 0) (k : am_T g μ d ac as (pc + 1) lv (am_I (x - x / y * y) :: st) h Q) : am_T g μ d ac as pc lv (am_I y :: am_I x :: st) h Q :=
  fun R mc ms p e s m args below meth c H locs cells slots ls hR hX hh hS hl h1 h2 => lv_irem hX.1 hX.2.1 hd hz (k R mc ms p e s m args below meth c H locs cells slots ls hR hX hh hS hl h1 h2)
def bt (x : Int32) (i : Nat) : Bool := x.toBitVec.getLsbD i
theorem b_ext {x y : Int32} (h : ∀ i, i < 32 → bt x i = bt y i) : x = y := Int32.toBitVec_inj.mp (BitVec.eq_of_getLsbD_eq (fun i hi => h i hi))
theorem b_or (x y : Int32) (i : Nat) : bt (x ||| y) i = (bt x i || bt y i) := by unfold bt; rw [Int32.toBitVec_or, BitVec.getLsbD_or]
theorem b_and (x y : Int32) (i : Nat) : bt (x &&& y) i = (bt x i && bt y i) := by unfold bt; rw [Int32.toBitVec_and, BitVec.getLsbD_and]
theorem b_big {x : Int32} {i : Nat} (h : 32 ≤ i) : bt x i = false := BitVec.getLsbD_of_ge _ _ h
theorem b_0 (i : Nat) : bt 0 i = false := BitVec.getLsbD_zero
theorem s_l : ∀ n, n < 32 → ((nI n &&& 31).toBitVec.smod 32).toNat = n := by decide +kernel
theorem b_shl (n : Nat) (hn : n < 32) (x : Int32) {i : Nat} (hi : i < 32) : bt (x <<< (nI n &&& 31)) i = (decide (n ≤ i) && bt x (i - n)) := by
  unfold bt
  rw [Int32.toBitVec_shiftLeft]
  show (x.toBitVec <<< ((nI n &&& 31).toBitVec.smod 32).toNat).getLsbD i = _
  rw [s_l n hn, BitVec.getLsbD_shiftLeft]
  rcases Nat.lt_or_ge i n with h | h
  · simp [h, Nat.not_le.mpr h]
  · simp [hi, h, Nat.not_lt.mpr h]
theorem b_sshr (n : Nat) (hn : n < 32) (x : Int32) {i : Nat} (hi : i < 32) : bt (x >>> (nI n &&& 31)) i = if n + i < 32 then bt x (n + i) else bt x 31 := by
  unfold bt
  rw [Int32.toBitVec_shiftRight]
  show (x.toBitVec.sshiftRight ((nI n &&& 31).toBitVec.smod 32).toNat).getLsbD i = _
  rw [s_l n hn, BitVec.getLsbD_sshiftRight, BitVec.msb_eq_getLsbD_last]
  simp [hi]
theorem b_1 : ∀ i, i < 32 → bt 1 i = decide (i = 0) := by decide +kernel
theorem bs_bit {a u : Nat} (ha : a < 32) (hu : u < 32) : bt ((1 : Int32) <<< (nI a &&& 31)) u = decide (u = a) := by
  rw [b_shl a ha 1 hu]
  by_cases h : a ≤ u
  · rw [b_1 _ (by omega), decide_eq_true h, Bool.true_and]
    by_cases e : u = a
    · rw [decide_eq_true e, decide_eq_true (by omega)]
    · rw [decide_eq_false e, decide_eq_false (by omega)]
  · rw [decide_eq_false h, Bool.false_and, decide_eq_false (by omega)]
theorem bs_get {m : Int32} {w : Nat} (hw : w < 32) : (m >>> (nI w &&& 31)) &&& 1 = 0 ↔ bt m w = false := by
  have e : bt (m >>> (nI w &&& 31)) 0 = bt m w := by
    rw [b_sshr w hw m (by omega), if_pos (by omega)]
    rfl
  constructor
  · intro h
    have h0 : bt ((m >>> (nI w &&& 31)) &&& 1) 0 = false := by rw [h]; exact b_0 0
    rw [b_and, b_1 0 (by omega), e] at h0
    simpa using h0
  · intro h
    apply b_ext
    intro i hi
    rw [b_and, b_1 i hi, b_0]
    by_cases hz : i = 0
    · subst hz
      rw [e, h]
      rfl
    · rw [decide_eq_false hz, Bool.and_false]
/-- the mask holds the set -/
def q_mb (m : Int32) (l : Nat → Int32) : Prop := ∀ u, u < 28 → (bt m u = false ↔ l u = 0)
theorem q_mb_set {m : Int32} {l : Nat → Int32} {a : Nat} (h : q_mb m l) (ha : a < 28) : q_mb (m ||| (1 <<< (nI a &&& 31))) (upd l a 1) := fun u hu => by
  rw [b_or, bs_bit (by omega) (by omega)]
  by_cases e : u = a
  · subst e
    rw [decide_eq_true rfl, Bool.or_true, upd_eq]
    decide
  · rw [decide_eq_false e, Bool.or_false, upd_ne e]
    exact h u hu
theorem q_mb_0 : q_mb 0 (fun _ => 0) := fun u _ => by
  rw [b_0]
  simp
theorem q_mb_get {m : Int32} {l : Nat → Int32} {v : Nat} (h : q_mb m l) (hv : v < 28) : (m >>> (nI v &&& 31)) &&& 1 = 0 ↔ l v = 0 := (bs_get (by omega)).trans (h v hv)
def q_lv (n : Nat) (mk st : Nat → Int32) (P : Nat → Nat → Int32) : Nat → Int32 := q_fl2 P n (q_fl1 mk st (fun _ => 0) n)
theorem q_mkl_ge {l : Nat → Int32} {x : Int32} {w u : Nat} (h : q_arg x w) (hw : w ≤ 28) (hu : w ≤ u) : q_mkl l x u = l u := by
  unfold q_mkl
  by_cases e : x = -1
  · rw [if_pos e]
  · rw [if_neg e, upd_ne (by have := (h.ix e hw).1; omega)]
theorem q_fl2_ge {P : Nat → Nat → Int32} {n : Nat} (hn : n ≤ 28) (hP : ∀ m, m < n → q_arg (P m 3) m ∧ q_arg (P m 4) m) : ∀ (j : Nat) (l : Nat → Int32) (u : Nat), j ≤ n → j ≤ u + 1 → q_fl2 P j l u = l u := by
  intro j
  induction j with
  | zero => intro l u _ _; rfl
  | succ j ih =>
    intro l u hj hu
    show q_fl2 P j (if l j = 0 then l else q_mkl (q_mkl l (P j 3)) (P j 4)) u = l u
    rw [ih _ u (by omega) (by omega)]
    split
    · rfl
    · rw [q_mkl_ge (hP j (by omega)).2 (by omega) (by omega), q_mkl_ge (hP j (by omega)).1 (by omega) (by omega)]
theorem q_mkl_c {l l' : Nat → Int32} {x : Int32} {n : Nat} (h : ∀ u, u < n → l u = l' u) : ∀ u, u < n → q_mkl l x u = q_mkl l' x u := fun u hu => by
  unfold q_mkl
  split
  · exact h u hu
  · unfold upd
    split
    · rfl
    · exact h u hu
theorem q_fl2_c {P : Nat → Nat → Int32} {n : Nat} : ∀ (j : Nat) (l l' : Nat → Int32), j ≤ n → (∀ u, u < n → l u = l' u) → ∀ u, u < n → q_fl2 P j l u = q_fl2 P j l' u := by
  intro j
  induction j with
  | zero => intro l l' _ h; exact h
  | succ j ih =>
    intro l l' hj h
    show ∀ u, u < n → q_fl2 P j (if l j = 0 then l else q_mkl (q_mkl l (P j 3)) (P j 4)) u = q_fl2 P j (if l' j = 0 then l' else q_mkl (q_mkl l' (P j 3)) (P j 4)) u
    refine ih _ _ (by omega) ?_
    rw [h j (by omega)]
    split
    · exact h
    · exact q_mkl_c (q_mkl_c h)
theorem q_fl1_c {mk st l l' : Nat → Int32} {n : Nat} (h : ∀ u, u < n → l u = l' u) : ∀ (i u : Nat), u < n → q_fl1 mk st l i u = q_fl1 mk st l' i u := by
  intro i
  induction i with
  | zero => exact h
  | succ i ih =>
    intro u hu
    unfold q_fl1
    split
    · exact ih u hu
    · unfold upd
      split
      · rfl
      · exact ih u hu
/-- the class's live values and the reference's -/
theorem q_live_lv {n : Nat} {mk st : Nat → Int32} {P : Nat → Nat → Int32} {lv : Nat → Int32} {u : Nat} (hu : u < n) : q_live n mk st P lv u = q_lv n mk st P u :=
  q_fl2_c n _ _ (Nat.le_refl _) (fun w hw => q_fl1_c (fun z hz => if_pos hz) n w hw) u hu
set_option maxRecDepth 100000 in
set_option maxHeartbeats 4000000 in
theorem lpM_live1 {g : am_G} {d : Nat} {Q : Option am_V → am_H → Prop} {X : Nat → Nat → Nat → am_V} {A P : Nat → Nat → Int32} {st mk pa ce wd us : Nat → Int32} {si : Int32} {n : Nat} {v : Nat} (hn : n ≤ 28) (hs : ∀ m, m < n → ∃ j, j < n ∧ st m = nI j) (hP : ∀ m, m < n → q_arg (P m 3) m ∧ q_arg (P m 4) m) (hv : v < n) (K : ∀ z : Int32, q_mb z (q_fl1 mk st (fun _ => 0) n) → am_T g mM_isLive d 0 0 38 [some (am_O 20 0), some (am_I (nI v)), some (am_I (z)), some (am_I (nI n))] [] (hm X (ym A P st mk pa ce wd us (nI n) si)) Q) : ∀ (j i : Nat), i + j = n → ∀ z : Int32, q_mb z (q_fl1 mk st (fun _ => 0) i) → am_T g mM_isLive d 0 0 4 [some (am_O 20 0), some (am_I (nI v)), some (am_I (z)), some (am_I (nI i))] [] (hm X (ym A P st mk pa ce wd us (nI n) si)) Q := by
  intro j
  induction j with
  | zero =>
    intro i hi z hz
    refine am_iload_n (i := 3) dM_isLive_4 rfl rfl ?_
    refine am_aload_n (i := 0) dM_isLive_5 rfl rfl ?_
    refine am_getf dM_isLive_6 flM_50 (by first | rfl | exact sk8 (by omega) | exact sk9 (by omega) | exact sk10 (by omega) | exact sk11 (by omega)) rfl ?_
    refine am_icmp_ge_T (tgt := 38) dM_isLive_9 (by decide) ((nI_le' (by omega) (by omega)).mpr (by omega)) ?_
    have e : i = n := by omega
    subst e
    exact K z hz
  | succ j ih =>
    intro i hi z hz
    refine am_iload_n (i := 3) dM_isLive_4 rfl rfl ?_
    refine am_aload_n (i := 0) dM_isLive_5 rfl rfl ?_
    refine am_getf dM_isLive_6 flM_50 (by first | rfl | exact sk8 (by omega) | exact sk9 (by omega) | exact sk10 (by omega) | exact sk11 (by omega)) rfl ?_
    refine am_icmp_ge_F (tgt := 38) dM_isLive_9 (by decide) (fun q => absurd ((nI_le' (by omega) (by omega)).mp q) (by omega)) ?_
    refine am_aload_n (i := 0) dM_isLive_12 rfl rfl ?_
    refine am_getf dM_isLive_13 flM_31 (by first | rfl | exact sk8 (by omega) | exact sk9 (by omega) | exact sk10 (by omega) | exact sk11 (by omega)) rfl ?_
    refine am_iload_n (i := 3) dM_isLive_16 rfl rfl ?_
    refine am_zald dM_isLive_17 (by first | rfl | exact sk8 (by omega) | exact sk9 (by omega) | exact sk10 (by omega) | exact sk11 (by omega)) rfl (by first | omega | assumption | decide) (by decide) (by decide) (by first | exact congrArg am_I (mkd_lo (by omega)) | exact congrArg am_I (mkd_hi (by omega)) | rfl) ?_
    refine am_if_eq (tgt := 32) dM_isLive_18 (by decide) (fun c18 => ?_) (fun c18 => ?_)
    · refine am_iinc dM_isLive_32 rfl (by first | exact nI_1 _ | exact pk_m1 _ | rfl) (by decide) ?_
      refine am_goto (tgt := 4) dM_isLive_35 (by decide) ?_
      refine ih (i + 1) (by omega) _ ?_
      unfold q_fl1
      rw [if_pos c18]
      exact hz
    · obtain ⟨hj, ej⟩ := q_ixs (hs i (by omega)) hn
      refine am_iload_n (i := 2) dM_isLive_21 rfl rfl ?_
      refine am_iconst (v := 1) dM_isLive_22 (by decide) ?_
      refine am_aload_n (i := 0) dM_isLive_23 rfl rfl ?_
      refine am_getf dM_isLive_24 flM_35 (by first | rfl | exact sk8 (by omega) | exact sk9 (by omega) | exact sk10 (by omega) | exact sk11 (by omega)) rfl ?_
      refine am_iload_n (i := 3) dM_isLive_27 rfl rfl ?_
      refine am_iald dM_isLive_28 (by first | rfl | exact sk8 (by omega) | exact sk9 (by omega) | exact sk10 (by omega) | exact sk11 (by omega)) rfl (by first | omega | assumption | decide) (by decide) (by decide) (by first | exact congrArg am_I (mkd_lo (by omega)) | exact congrArg am_I (mkd_hi (by omega)) | rfl) ?_
      refine am_ishl dM_isLive_29 ?_
      refine am_sT (st' := am_I ((1 : Int32) <<< (nI (ix (st i)) &&& 31)) :: _) (congrArg (fun q => am_I ((1 : Int32) <<< (q &&& 31)) :: _) ej) ?_
      refine am_ior dM_isLive_30 ?_
      refine am_istore_n (i := 2) dM_isLive_31 rfl (by decide) ?_
      refine am_iinc dM_isLive_32 rfl (by first | exact nI_1 _ | exact pk_m1 _ | rfl) (by decide) ?_
      refine am_goto (tgt := 4) dM_isLive_35 (by decide) ?_
      refine ih (i + 1) (by omega) _ ?_
      unfold q_fl1
      rw [if_neg c18]
      exact q_mb_set hz (by omega)
set_option maxRecDepth 100000 in
set_option maxHeartbeats 4000000 in
theorem lpM_live2 {g : am_G} {d : Nat} {Q : Option am_V → am_H → Prop} {X : Nat → Nat → Nat → am_V} {A P : Nat → Nat → Int32} {st mk pa ce wd us : Nat → Int32} {si : Int32} {n : Nat} {v : Nat} (hn : n ≤ 28) (hs : ∀ m, m < n → ∃ j, j < n ∧ st m = nI j) (hP : ∀ m, m < n → q_arg (P m 3) m ∧ q_arg (P m 4) m) (hv : v < n) {F : Nat → Int32} (h1 : ¬ F v = 0 → Q (some (am_I 1)) (hm X (ym A P st mk pa ce wd us (nI n) si))) (h0 : F v = 0 → Q (some (am_I 0)) (hm X (ym A P st mk pa ce wd us (nI n) si))) : ∀ (i : Nat), v < i → i ≤ n → ∀ x : Int32, x = nI i - 1 → ∀ (z : Int32) (l : Nat → Int32), q_mb z l → q_fl2 P i l = F → am_T g mM_isLive d 0 0 45 [some (am_O 20 0), some (am_I (nI v)), some (am_I (z)), some (am_I (x))] [] (hm X (ym A P st mk pa ce wd us (nI n) si)) Q := by
  intro i
  induction i with
  | zero => intro h; omega
  | succ i ih =>
    intro hvi hi x hx z l hz eF
    have hxi : x = nI i := by rw [hx, nI_pred]
    subst hxi
    by_cases hiv : i = v
    · subst hiv
      have eF : l i = F i := by rw [← eF]; exact (q_fl2_ge hn hP (i + 1) l i (by omega) (by omega)).symm
      refine am_iload_n (i := 3) dM_isLive_45 rfl rfl ?_
      refine am_iload_n (i := 1) dM_isLive_46 rfl rfl ?_
      refine am_icmp_le_T (tgt := 112) dM_isLive_47 (by decide) ((nI_le' (by omega) (by omega)).mpr (by omega)) ?_
      refine am_iload_n (i := 2) dM_isLive_112 rfl rfl ?_
      refine am_iload_n (i := 1) dM_isLive_113 rfl rfl ?_
      refine am_ishr dM_isLive_114 ?_
      refine am_iconst (v := 1) dM_isLive_115 (by decide) ?_
      refine am_iand dM_isLive_116 ?_
      refine am_if_eq (tgt := 124) dM_isLive_117 (by decide) (fun c117 => ?_) (fun c117 => ?_)
      · refine am_iconst (v := 0) dM_isLive_124 (by decide) ?_
        refine am_iret (st := []) rfl rfl dM_isLive_125 ?_
        exact h0 (eF.symm.trans ((q_mb_get hz (by omega)).mp c117))
      · refine am_iconst (v := 1) dM_isLive_120 (by decide) ?_
        refine am_goto (tgt := 125) dM_isLive_121 (by decide) ?_
        refine am_iret (st := []) rfl rfl dM_isLive_125 ?_
        exact h1 (fun q => c117 ((q_mb_get hz (by omega)).mpr (eF.trans q)))
    · have hvi2 : v < i := by omega
      refine am_iload_n (i := 3) dM_isLive_45 rfl rfl ?_
      refine am_iload_n (i := 1) dM_isLive_46 rfl rfl ?_
      refine am_icmp_le_F (tgt := 112) dM_isLive_47 (by decide) (fun q => absurd ((nI_le' (by omega) (by omega)).mp q) (by omega)) ?_
      refine am_iload_n (i := 2) dM_isLive_50 rfl rfl ?_
      refine am_iload_n (i := 3) dM_isLive_51 rfl rfl ?_
      refine am_ishr dM_isLive_52 ?_
      refine am_iconst (v := 1) dM_isLive_53 (by decide) ?_
      refine am_iand dM_isLive_54 ?_
      refine am_if_eq (tgt := 78) dM_isLive_55 (by decide) (fun c55 => ?_) (fun c55 => ?_)
      · refine am_iload_n (i := 2) dM_isLive_78 rfl rfl ?_
        refine am_iload_n (i := 3) dM_isLive_79 rfl rfl ?_
        refine am_ishr dM_isLive_80 ?_
        refine am_iconst (v := 1) dM_isLive_81 (by decide) ?_
        refine am_iand dM_isLive_82 ?_
        refine am_if_eq_T (tgt := 106) dM_isLive_83 (by decide) c55 ?_
        refine am_iinc dM_isLive_106 rfl (nI_dec _) (by decide) ?_
        refine am_goto (tgt := 45) dM_isLive_109 (by decide) ?_
        refine ih (by omega) (by omega) _ rfl z l hz ?_
        rw [← eF]
        show _ = q_fl2 P i (if l i = 0 then l else q_mkl (q_mkl l (P i 3)) (P i 4))
        rw [if_pos ((q_mb_get hz (by omega)).mp c55)]
      · refine am_aload_n (i := 0) dM_isLive_58 rfl rfl ?_
        refine am_getf dM_isLive_59 flM_13 (by first | rfl | exact sk8 (by omega) | exact sk9 (by omega) | exact sk10 (by omega) | exact sk11 (by omega)) rfl ?_
        refine am_iload_n (i := 3) dM_isLive_62 rfl rfl ?_
        refine am_iald dM_isLive_63 (by first | rfl | exact sk8 (by omega) | exact sk9 (by omega) | exact sk10 (by omega) | exact sk11 (by omega)) rfl (by first | omega | assumption | decide) (by decide) (by decide) (by first | exact congrArg am_I (mkd_lo (by omega)) | exact congrArg am_I (mkd_hi (by omega)) | rfl) ?_
        refine am_if_lt (tgt := 78) dM_isLive_64 (by decide) (fun c64 => ?_) (fun c64 => ?_)
        · refine am_iload_n (i := 2) dM_isLive_78 rfl rfl ?_
          refine am_iload_n (i := 3) dM_isLive_79 rfl rfl ?_
          refine am_ishr dM_isLive_80 ?_
          refine am_iconst (v := 1) dM_isLive_81 (by decide) ?_
          refine am_iand dM_isLive_82 ?_
          refine am_if_eq_F (tgt := 106) dM_isLive_83 (by decide) c55 ?_
          refine am_aload_n (i := 0) dM_isLive_86 rfl rfl ?_
          refine am_getf dM_isLive_87 flM_16 (by first | rfl | exact sk8 (by omega) | exact sk9 (by omega) | exact sk10 (by omega) | exact sk11 (by omega)) rfl ?_
          refine am_iload_n (i := 3) dM_isLive_90 rfl rfl ?_
          refine am_iald dM_isLive_91 (by first | rfl | exact sk8 (by omega) | exact sk9 (by omega) | exact sk10 (by omega) | exact sk11 (by omega)) rfl (by first | omega | assumption | decide) (by decide) (by decide) (by first | exact congrArg am_I (mkd_lo (by omega)) | exact congrArg am_I (mkd_hi (by omega)) | rfl) ?_
          refine am_if_lt (tgt := 106) dM_isLive_92 (by decide) (fun c92 => ?_) (fun c92 => ?_)
          · refine am_iinc dM_isLive_106 rfl (nI_dec _) (by decide) ?_
            refine am_goto (tgt := 45) dM_isLive_109 (by decide) ?_
            have zz : ¬ l i = 0 := fun q => c55 ((q_mb_get hz (by omega)).mpr q)
            have a3 : q_mkl l (P i 3) = l := by
              unfold q_mkl
              rw [if_pos ((q_arg_neg (hP i (by omega)).1 (by omega)).1.mp c64)]
            have a4 : q_mkl l (P i 4) = l := by
              unfold q_mkl
              rw [if_pos ((q_arg_neg (hP i (by omega)).2 (by omega)).1.mp c92)]
            refine ih (by omega) (by omega) _ rfl _ _ hz ?_
            rw [← eF]
            show _ = q_fl2 P i (if l i = 0 then l else q_mkl (q_mkl l (P i 3)) (P i 4))
            rw [if_neg zz, a3, a4]
          · have n4 : ¬ P i 4 = -1 := fun q => c92 ((q_arg_neg (hP i (by omega)).2 (by omega)).1.mpr q)
            obtain ⟨g4, e4⟩ := (hP i (by omega)).2.ix n4 (by omega)
            refine am_iload_n (i := 2) dM_isLive_95 rfl rfl ?_
            refine am_iconst (v := 1) dM_isLive_96 (by decide) ?_
            refine am_aload_n (i := 0) dM_isLive_97 rfl rfl ?_
            refine am_getf dM_isLive_98 flM_16 (by first | rfl | exact sk8 (by omega) | exact sk9 (by omega) | exact sk10 (by omega) | exact sk11 (by omega)) rfl ?_
            refine am_iload_n (i := 3) dM_isLive_101 rfl rfl ?_
            refine am_iald dM_isLive_102 (by first | rfl | exact sk8 (by omega) | exact sk9 (by omega) | exact sk10 (by omega) | exact sk11 (by omega)) rfl (by first | omega | assumption | decide) (by decide) (by decide) (by first | exact congrArg am_I (mkd_lo (by omega)) | exact congrArg am_I (mkd_hi (by omega)) | rfl) ?_
            refine am_ishl dM_isLive_103 ?_
            refine am_sT (st' := am_I ((1 : Int32) <<< (nI (ix (P i 4)) &&& 31)) :: _) (congrArg (fun q => am_I ((1 : Int32) <<< (q &&& 31)) :: _) e4) ?_
            refine am_ior dM_isLive_104 ?_
            refine am_istore_n (i := 2) dM_isLive_105 rfl (by decide) ?_
            refine am_iinc dM_isLive_106 rfl (nI_dec _) (by decide) ?_
            refine am_goto (tgt := 45) dM_isLive_109 (by decide) ?_
            have zz : ¬ l i = 0 := fun q => c55 ((q_mb_get hz (by omega)).mpr q)
            have a3 : q_mkl l (P i 3) = l := by
              unfold q_mkl
              rw [if_pos ((q_arg_neg (hP i (by omega)).1 (by omega)).1.mp c64)]
            have a4 : q_mkl l (P i 4) = upd l (ix (P i 4)) 1 := by
              unfold q_mkl
              rw [if_neg n4]
            refine ih (by omega) (by omega) _ rfl _ _ (q_mb_set hz (by omega)) ?_
            rw [← eF]
            show _ = q_fl2 P i (if l i = 0 then l else q_mkl (q_mkl l (P i 3)) (P i 4))
            rw [if_neg zz, a3, a4]
        · have n3 : ¬ P i 3 = -1 := fun q => c64 ((q_arg_neg (hP i (by omega)).1 (by omega)).1.mpr q)
          obtain ⟨g3, e3⟩ := (hP i (by omega)).1.ix n3 (by omega)
          have zi : ¬ upd l (ix (P i 3)) 1 i = 0 := by
            rw [upd_ne (by omega)]
            exact fun q => c55 ((q_mb_get hz (by omega)).mpr q)
          refine am_iload_n (i := 2) dM_isLive_67 rfl rfl ?_
          refine am_iconst (v := 1) dM_isLive_68 (by decide) ?_
          refine am_aload_n (i := 0) dM_isLive_69 rfl rfl ?_
          refine am_getf dM_isLive_70 flM_13 (by first | rfl | exact sk8 (by omega) | exact sk9 (by omega) | exact sk10 (by omega) | exact sk11 (by omega)) rfl ?_
          refine am_iload_n (i := 3) dM_isLive_73 rfl rfl ?_
          refine am_iald dM_isLive_74 (by first | rfl | exact sk8 (by omega) | exact sk9 (by omega) | exact sk10 (by omega) | exact sk11 (by omega)) rfl (by first | omega | assumption | decide) (by decide) (by decide) (by first | exact congrArg am_I (mkd_lo (by omega)) | exact congrArg am_I (mkd_hi (by omega)) | rfl) ?_
          refine am_ishl dM_isLive_75 ?_
          refine am_sT (st' := am_I ((1 : Int32) <<< (nI (ix (P i 3)) &&& 31)) :: _) (congrArg (fun q => am_I ((1 : Int32) <<< (q &&& 31)) :: _) e3) ?_
          refine am_ior dM_isLive_76 ?_
          refine am_istore_n (i := 2) dM_isLive_77 rfl (by decide) ?_
          refine am_iload_n (i := 2) dM_isLive_78 rfl rfl ?_
          refine am_iload_n (i := 3) dM_isLive_79 rfl rfl ?_
          refine am_ishr dM_isLive_80 ?_
          refine am_iconst (v := 1) dM_isLive_81 (by decide) ?_
          refine am_iand dM_isLive_82 ?_
          refine am_if_eq_F (tgt := 106) dM_isLive_83 (by decide) (fun q => zi ((q_mb_get (q_mb_set hz (by omega)) (by omega)).mp q)) ?_
          refine am_aload_n (i := 0) dM_isLive_86 rfl rfl ?_
          refine am_getf dM_isLive_87 flM_16 (by first | rfl | exact sk8 (by omega) | exact sk9 (by omega) | exact sk10 (by omega) | exact sk11 (by omega)) rfl ?_
          refine am_iload_n (i := 3) dM_isLive_90 rfl rfl ?_
          refine am_iald dM_isLive_91 (by first | rfl | exact sk8 (by omega) | exact sk9 (by omega) | exact sk10 (by omega) | exact sk11 (by omega)) rfl (by first | omega | assumption | decide) (by decide) (by decide) (by first | exact congrArg am_I (mkd_lo (by omega)) | exact congrArg am_I (mkd_hi (by omega)) | rfl) ?_
          refine am_if_lt (tgt := 106) dM_isLive_92 (by decide) (fun c92 => ?_) (fun c92 => ?_)
          · refine am_iinc dM_isLive_106 rfl (nI_dec _) (by decide) ?_
            refine am_goto (tgt := 45) dM_isLive_109 (by decide) ?_
            have zz : ¬ l i = 0 := fun q => c55 ((q_mb_get hz (by omega)).mpr q)
            have a3 : q_mkl l (P i 3) = upd l (ix (P i 3)) 1 := by
              unfold q_mkl
              rw [if_neg n3]
            have a4 : q_mkl (upd l (ix (P i 3)) 1) (P i 4) = (upd l (ix (P i 3)) 1) := by
              unfold q_mkl
              rw [if_pos ((q_arg_neg (hP i (by omega)).2 (by omega)).1.mp c92)]
            refine ih (by omega) (by omega) _ rfl _ _ (q_mb_set hz (by omega)) ?_
            rw [← eF]
            show _ = q_fl2 P i (if l i = 0 then l else q_mkl (q_mkl l (P i 3)) (P i 4))
            rw [if_neg zz, a3, a4]
          · have n4 : ¬ P i 4 = -1 := fun q => c92 ((q_arg_neg (hP i (by omega)).2 (by omega)).1.mpr q)
            obtain ⟨g4, e4⟩ := (hP i (by omega)).2.ix n4 (by omega)
            refine am_iload_n (i := 2) dM_isLive_95 rfl rfl ?_
            refine am_iconst (v := 1) dM_isLive_96 (by decide) ?_
            refine am_aload_n (i := 0) dM_isLive_97 rfl rfl ?_
            refine am_getf dM_isLive_98 flM_16 (by first | rfl | exact sk8 (by omega) | exact sk9 (by omega) | exact sk10 (by omega) | exact sk11 (by omega)) rfl ?_
            refine am_iload_n (i := 3) dM_isLive_101 rfl rfl ?_
            refine am_iald dM_isLive_102 (by first | rfl | exact sk8 (by omega) | exact sk9 (by omega) | exact sk10 (by omega) | exact sk11 (by omega)) rfl (by first | omega | assumption | decide) (by decide) (by decide) (by first | exact congrArg am_I (mkd_lo (by omega)) | exact congrArg am_I (mkd_hi (by omega)) | rfl) ?_
            refine am_ishl dM_isLive_103 ?_
            refine am_sT (st' := am_I ((1 : Int32) <<< (nI (ix (P i 4)) &&& 31)) :: _) (congrArg (fun q => am_I ((1 : Int32) <<< (q &&& 31)) :: _) e4) ?_
            refine am_ior dM_isLive_104 ?_
            refine am_istore_n (i := 2) dM_isLive_105 rfl (by decide) ?_
            refine am_iinc dM_isLive_106 rfl (nI_dec _) (by decide) ?_
            refine am_goto (tgt := 45) dM_isLive_109 (by decide) ?_
            have zz : ¬ l i = 0 := fun q => c55 ((q_mb_get hz (by omega)).mpr q)
            have a3 : q_mkl l (P i 3) = upd l (ix (P i 3)) 1 := by
              unfold q_mkl
              rw [if_neg n3]
            have a4 : q_mkl (upd l (ix (P i 3)) 1) (P i 4) = upd (upd l (ix (P i 3)) 1) (ix (P i 4)) 1 := by
              unfold q_mkl
              rw [if_neg n4]
            refine ih (by omega) (by omega) _ rfl _ _ (q_mb_set (q_mb_set hz (by omega)) (by omega)) ?_
            rw [← eF]
            show _ = q_fl2 P i (if l i = 0 then l else q_mkl (q_mkl l (P i 3)) (P i 4))
            rw [if_neg zz, a3, a4]
set_option maxRecDepth 100000 in
set_option maxHeartbeats 4000000 in
theorem cM_isLive {g : am_G} {d : Nat} {Q : Option am_V → am_H → Prop} {X : Nat → Nat → Nat → am_V} {A P : Nat → Nat → Int32} {st mk pa ce wd us : Nat → Int32} {si : Int32} {n : Nat} {v : Nat} (hn : n ≤ 28) (hs : ∀ m, m < n → ∃ j, j < n ∧ st m = nI j) (hP : ∀ m, m < n → q_arg (P m 3) m ∧ q_arg (P m 4) m) (hv : v < n) (h1 : ¬ q_lv n mk st P v = 0 → Q (some (am_I 1)) (hm X (ym A P st mk pa ce wd us (nI n) si))) (h0 : q_lv n mk st P v = 0 → Q (some (am_I 0)) (hm X (ym A P st mk pa ce wd us (nI n) si))) : am_C g mM_isLive d 0 0 [am_O 20 0, am_I (nI v)] (hm X (ym A P st mk pa ce wd us (nI n) si)) Q := by
  refine am_enter (lv := [some (am_O 20 0), some (am_I (nI v)), none, none]) rfl rfl (am_cat1 rfl) (Nat.le_of_ble_eq_true rfl) ?_
  refine am_iconst (v := 0) dM_isLive_0 (by decide) ?_
  refine am_istore_n (i := 2) dM_isLive_1 rfl (by decide) ?_
  refine am_iconst (v := 0) dM_isLive_2 (by decide) ?_
  refine am_istore_n (i := 3) dM_isLive_3 rfl (by decide) ?_
  refine lpM_live1 hn hs hP hv (fun z hz => ?_) n 0 (by omega) 0 q_mb_0
  refine am_aload_n (i := 0) dM_isLive_38 rfl rfl ?_
  refine am_getf dM_isLive_39 flM_50 (by first | rfl | exact sk8 (by omega) | exact sk9 (by omega) | exact sk10 (by omega) | exact sk11 (by omega)) rfl ?_
  refine am_iconst (v := 1) dM_isLive_42 (by decide) ?_
  refine am_isub dM_isLive_43 ?_
  refine am_istore_n (i := 3) dM_isLive_44 rfl (by decide) ?_
  exact lpM_live2 hn hs hP hv h1 h0 n (by omega) (Nat.le_refl _) _ rfl z _ hz rfl
