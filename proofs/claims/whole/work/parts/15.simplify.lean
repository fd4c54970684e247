def q_us0 (us : Nat → Int32) : Nat → Int32 := fun r => if r < 7 then 0 else us r
set_option maxRecDepth 100000 in
set_option maxHeartbeats 4000000 in
theorem lpA_fill {g : am_G} {d : Nat} {Q : Option am_V → am_H → Prop} {Y : Nat → Nat → Nat → am_V} {A P : Nat → Nat → Int32} {st mk lv : Nat → Int32} {cl pr : Nat → Nat → Int32} {us : Nat → Int32} {va si wk : Int32} (K : Q none (hm (xc A P st mk lv cl pr (q_us0 us) va si wk) Y)) : ∀ (j i : Nat), i + j = 7 → am_T g mA_fill d 0 0 5 [some (am_O 12 0), some (am_I 0), some (am_I (nI i)), some (am_I (nI 7))] [] (hm (xc A P st mk lv cl pr (fun r => if r < i then 0 else us r) va si wk) Y) Q := by
  intro j
  induction j with
  | zero =>
    intro i hi
    refine am_iload_n (i := 2) dA_fill_5 rfl rfl ?_
    refine am_iload_n (i := 3) dA_fill_6 rfl rfl ?_
    refine am_icmp_ge_T (tgt := 20) dA_fill_7 (by decide) ((nI_le' (by omega) (by omega)).mpr (by omega)) ?_
    refine am_vret (st := []) rfl dA_fill_20 ?_
    have e : i = 7 := by omega
    subst e
    exact K
  | succ j ih =>
    intro i hi
    refine am_iload_n (i := 2) dA_fill_5 rfl rfl ?_
    refine am_iload_n (i := 3) dA_fill_6 rfl rfl ?_
    refine am_icmp_ge_F (tgt := 20) dA_fill_7 (by decide) (fun q => absurd ((nI_le' (by omega) (by omega)).mp q) (by omega)) ?_
    refine am_aload_n (i := 0) dA_fill_10 rfl rfl ?_
    refine am_iload_n (i := 2) dA_fill_11 rfl rfl ?_
    refine am_iload_n (i := 1) dA_fill_12 rfl rfl ?_
    refine am_iast' dA_fill_13 (by first | rfl | exact sk8 (by omega) | exact sk9 (by omega) | exact sk10 (by omega) | exact sk11 (by omega)) rfl (by first | omega | assumption | decide) (by decide) (by decide) (by first | exact wx_st | exact wx_mk | exact wx_lv | exact wx_us | exact wx_A | exact wx_P | exact wx_cl | exact wx_pr | exact wx_va | exact wx_si | exact wx_wk) ?_
    refine am_iinc dA_fill_14 rfl (by first | exact nI_1 _ | exact pk_m1 _ | rfl) (by decide) ?_
    refine am_goto (tgt := 5) dA_fill_17 (by decide) ?_
    refine am_hT (h' := (hm (xc A P st mk lv cl pr (fun r => if r < i + 1 then 0 else us r) va si wk) Y)) ?_ (ih (i + 1) (by omega))
    congr 2
    funext u
    unfold upd
    grind
set_option maxRecDepth 100000 in
set_option maxHeartbeats 4000000 in
theorem cA_fill {g : am_G} {d : Nat} {Q : Option am_V → am_H → Prop} {Y : Nat → Nat → Nat → am_V} {A P : Nat → Nat → Int32} {st mk lv : Nat → Int32} {cl pr : Nat → Nat → Int32} {us : Nat → Int32} {va si wk : Int32} (k : Q none (hm (xc A P st mk lv cl pr (q_us0 us) va si wk) Y)) : am_C g mA_fill d 0 0 [am_O 12 0, am_I 0] (hm (xc A P st mk lv cl pr us va si wk) Y) Q := by
  refine am_enter (lv := [some (am_O 12 0), some (am_I 0), none, none]) rfl rfl (am_cat1 rfl) (Nat.le_of_ble_eq_true rfl) ?_
  refine am_iconst (v := 0) dA_fill_0 (by decide) ?_
  refine am_istore_n (i := 2) dA_fill_1 rfl (by decide) ?_
  refine am_aload_n (i := 0) dA_fill_2 rfl rfl ?_
  refine am_alen dA_fill_3 (by first | rfl | exact sk8 (by omega) | exact sk9 (by omega) | exact sk10 (by omega) | exact sk11 (by omega)) (by decide) ?_
  refine am_istore_n (i := 3) dA_fill_4 rfl (by decide) ?_
  refine am_hT (h' := (hm (xc A P st mk lv cl pr (fun r => if r < 0 then 0 else us r) va si wk) Y)) (by congr 2) (lpA_fill k 7 0 (by omega))
set_option maxRecDepth 100000 in
set_option maxHeartbeats 4000000 in
theorem lpC_simp {g : am_G} {d : Nat} {Q : Option am_V → am_H → Prop} {Y : Nat → Nat → Nat → am_V} {A : Nat → Nat → Int32} {mk lv : Nat → Int32} {cl pr : Nat → Nat → Int32} {si wk : Int32} {n : Nat} (hn : n ≤ 28) : ∀ (j i : Nat), i + j = n → ∀ (P : Nat → Nat → Int32) (st us : Nat → Int32) (c : Nat), q_J n i P st → (∀ T S U e, q_run j i P st us c = (T, S, U, e) → q_J n n T S → am_T g mC_simplify (d + 4) 0 0 70 [some (am_O 0 0), some (am_I (nI e)), some (am_I (nI n))] [] (hm (xc A T S mk lv cl pr U (nI n) si wk) Y) Q) → am_T g mC_simplify (d + 4) 0 0 22 [some (am_O 0 0), some (am_I (nI c)), some (am_I (nI i))] [] (hm (xc A P st mk lv cl pr us (nI n) si wk) Y) Q := by
  intro j
  induction j with
  | zero =>
    intro i hi P st us c hJ K
    refine am_iload_n (i := 2) dC_simplify_22 rfl rfl ?_
    refine am_aload_n (i := 0) dC_simplify_23 rfl rfl ?_
    refine am_getf dC_simplify_24 flC_40 (by first | rfl | exact sk8 (by omega) | exact sk9 (by omega) | exact sk10 (by omega) | exact sk11 (by omega)) rfl ?_
    refine am_icmp_ge_T (tgt := 70) dC_simplify_27 (by decide) ((nI_le' (by omega) (by omega)).mpr (by omega)) ?_
    have e : i = n := by omega
    subst e
    exact K _ _ _ _ rfl hJ
  | succ j ih =>
    intro i hi P st us c hJ K
    refine am_iload_n (i := 2) dC_simplify_22 rfl rfl ?_
    refine am_aload_n (i := 0) dC_simplify_23 rfl rfl ?_
    refine am_getf dC_simplify_24 flC_40 (by first | rfl | exact sk8 (by omega) | exact sk9 (by omega) | exact sk10 (by omega) | exact sk11 (by omega)) rfl ?_
    refine am_icmp_ge_F (tgt := 70) dC_simplify_27 (by decide) (fun q => absurd ((nI_le' (by omega) (by omega)).mp q) (by omega)) ?_
    have hok := hJ.1 i (by omega)
    refine am_aload_n (i := 0) dC_simplify_30 rfl rfl ?_
    refine am_aload_n (i := 0) dC_simplify_31 rfl rfl ?_
    refine am_getf dC_simplify_32 flC_15 (by first | rfl | exact sk8 (by omega) | exact sk9 (by omega) | exact sk10 (by omega) | exact sk11 (by omega)) rfl ?_
    refine am_iload_n (i := 2) dC_simplify_35 rfl rfl ?_
    refine am_aald dC_simplify_36 (by first | rfl | exact sk8 (by omega) | exact sk9 (by omega) | exact sk10 (by omega) | exact sk11 (by omega)) rfl (by first | omega | assumption | decide) (by decide) (by decide) rfl rfl ?_
    refine am_callV (ac' := 0) (as' := 0) (xs := [_]) dC_simplify_37 lkC_104 (by first | rfl | exact sk8 (by omega) | exact sk9 (by omega) | exact sk10 (by omega) | exact sk11 (by omega)) rfl rfl rfl rfl (Nat.le_of_ble_eq_true rfl) rfl rfl (cC_replaceArguments (by omega) hok.1.1 hok.1.2.1 (fun T1 eT1 => ?_))
    have hJ1 := q_rep_J hJ (v := i) (by omega) hn
    have hr : q_ok T1 i := eT1 ▸ hJ1.1 i (by omega)
    have hro : ∀ u, u < i → q_arg (T1 u 3) u := fun u hu => (eT1 ▸ hJ1.1 u (by omega) : q_ok T1 u).1.1
    refine am_aload_n (i := 0) dC_simplify_40 rfl rfl ?_
    refine am_getf dC_simplify_41 flC_18 (by first | rfl | exact sk8 (by omega) | exact sk9 (by omega) | exact sk10 (by omega) | exact sk11 (by omega)) rfl ?_
    refine am_iload_n (i := 2) dC_simplify_44 rfl rfl ?_
    refine am_aload_n (i := 0) dC_simplify_45 rfl rfl ?_
    refine am_iload_n (i := 2) dC_simplify_46 rfl rfl ?_
    refine am_callV (ac' := 0) (as' := 0) (xs := [_]) dC_simplify_47 lkC_108 (by first | rfl | exact sk8 (by omega) | exact sk9 (by omega) | exact sk10 (by omega) | exact sk11 (by omega)) rfl rfl rfl rfl (Nat.le_of_ble_eq_true rfl) rfl rfl (cC_standInByRules (by omega) hr.1.1 hr.1.2.1 hr.1.2.2.1 hr.1.2.2.2 hro (fun x T2 U ex eT2 eU => ?_))
    refine am_iast' dC_simplify_50 (by first | rfl | exact sk8 (by omega) | exact sk9 (by omega) | exact sk10 (by omega) | exact sk11 (by omega)) rfl (by first | omega | assumption | decide) (by decide) (by decide) (by first | exact wx_st | exact wx_mk | exact wx_lv | exact wx_us | exact wx_A | exact wx_P | exact wx_cl | exact wx_pr | exact wx_va | exact wx_si | exact wx_wk) ?_
    have e2 : T2 = q_sP st P i := by rw [eT2, eT1]; rfl
    have e3 : x = q_sx st P i := by rw [ex, eT1]; rfl
    have e4 : U = q_sU st P us i := by rw [eU, eT1]; rfl
    subst e2; subst e3; subst e4
    refine am_aload_n (i := 0) dC_simplify_51 rfl rfl ?_
    refine am_getf dC_simplify_52 flC_18 (by first | rfl | exact sk8 (by omega) | exact sk9 (by omega) | exact sk10 (by omega) | exact sk11 (by omega)) rfl ?_
    refine am_iload_n (i := 2) dC_simplify_55 rfl rfl ?_
    refine am_iald dC_simplify_56 (by first | rfl | exact sk8 (by omega) | exact sk9 (by omega) | exact sk10 (by omega) | exact sk11 (by omega)) rfl (by first | omega | assumption | decide) (by decide) (by decide) (congrArg am_I (upd_eq _ _ _)) ?_
    refine am_iload_n (i := 2) dC_simplify_57 rfl rfl ?_
    refine am_icmp_ne (tgt := 64) dC_simplify_58 (by decide) (fun c58 => ?_) (fun c58 => ?_)
    · refine am_iinc dC_simplify_64 rfl (by first | exact nI_1 _ | exact pk_m1 _ | rfl) (by decide) ?_
      refine am_goto (tgt := 22) dC_simplify_67 (by decide) ?_
      refine ih (i + 1) (by omega) _ _ _ _ (q_s_J hJ (by omega) hn) (fun T S U e he hj => K T S U e ?_ hj)
      rw [← he]
      show q_run j (i + 1) (q_sP st P i) (upd st i (q_sx st P i)) (q_sU st P us i) (if q_sx st P i = nI i then c + 1 else c) = _
      first
        | (rw [if_pos (by first | exact c58 | exact Classical.not_not.mp c58)]; done)
        | (rw [if_neg c58]; done)
    · refine am_iinc dC_simplify_61 rfl (by first | exact nI_1 _ | exact pk_m1 _ | rfl) (by decide) ?_
      refine am_iinc dC_simplify_64 rfl (by first | exact nI_1 _ | exact pk_m1 _ | rfl) (by decide) ?_
      refine am_goto (tgt := 22) dC_simplify_67 (by decide) ?_
      refine ih (i + 1) (by omega) _ _ _ _ (q_s_J hJ (by omega) hn) (fun T S U e he hj => K T S U e ?_ hj)
      rw [← he]
      show q_run j (i + 1) (q_sP st P i) (upd st i (q_sx st P i)) (q_sU st P us i) (if q_sx st P i = nI i then c + 1 else c) = _
      first
        | (rw [if_pos (by first | exact c58 | exact Classical.not_not.mp c58)]; done)
        | (rw [if_neg c58]; done)
set_option maxRecDepth 100000 in
set_option maxHeartbeats 4000000 in
theorem cC_simplify {g : am_G} {d : Nat} {Q : Option am_V → am_H → Prop} {Y : Nat → Nat → Nat → am_V} {A P : Nat → Nat → Int32} {st mk lv : Nat → Int32} {cl pr : Nat → Nat → Int32} {us : Nat → Int32} {si wk : Int32} {n : Nat} (hn : n ≤ 28) (hJ : si = 0 → q_J n 0 P st) (ks : ¬ si = 0 → Q (some (am_I (-4))) (hm (xc A P st mk lv cl pr us (nI n) si wk) Y)) (k : si = 0 → ∀ T S U e L, q_run n 0 P st (q_us0 us) 0 = (T, S, U, e) → q_J n n T S → L = q_live n mk S T lv → Q (some (am_I (nI e))) (hm (xc A T S mk L cl pr U (nI n) 1 0) Y)) : am_C g mC_simplify (d + 4) 0 0 [am_O 0 0] (hm (xc A P st mk lv cl pr us (nI n) si wk) Y) Q := by
  refine am_enter (lv := [some (am_O 0 0), none, none]) rfl rfl (am_cat1 rfl) (Nat.le_of_ble_eq_true rfl) ?_
  refine am_aload_n (i := 0) dC_simplify_0 rfl rfl ?_
  refine am_getf dC_simplify_1 flC_44 (by first | rfl | exact sk8 (by omega) | exact sk9 (by omega) | exact sk10 (by omega) | exact sk11 (by omega)) rfl ?_
  refine am_if_eq (tgt := 10) dC_simplify_4 (by decide) (fun c4 => ?_) (fun c4 => ?_)
  · refine am_aload_n (i := 0) dC_simplify_10 rfl rfl ?_
    refine am_getf dC_simplify_11 flC_37 (by first | rfl | exact sk8 (by omega) | exact sk9 (by omega) | exact sk10 (by omega) | exact sk11 (by omega)) rfl ?_
    refine am_iconst (v := 0) dC_simplify_14 (by decide) ?_
    refine am_callS (ac' := 0) (as' := 0) (xs := [_, _]) dC_simplify_15 lkC_98 rfl rfl (Nat.le_of_ble_eq_true rfl) rfl rfl (cA_fill ?_)
    refine am_iconst (v := 0) dC_simplify_18 (by decide) ?_
    refine am_istore_n (i := 1) dC_simplify_19 rfl (by decide) ?_
    refine am_iconst (v := 0) dC_simplify_20 (by decide) ?_
    refine am_istore_n (i := 2) dC_simplify_21 rfl (by decide) ?_
    refine lpC_simp hn n 0 (by omega) P st (q_us0 us) 0 (hJ c4) (fun T S U e he hj => ?_)
    refine am_aload_n (i := 0) dC_simplify_70 rfl rfl ?_
    refine am_iconst (v := 1) dC_simplify_71 (by decide) ?_
    refine am_putf' dC_simplify_72 flC_44 (by first | rfl | exact sk8 (by omega) | exact sk9 (by omega) | exact sk10 (by omega) | exact sk11 (by omega)) rfl (fun _ => ⟨rfl, rfl⟩) (by first | exact wx_st | exact wx_mk | exact wx_lv | exact wx_us | exact wx_A | exact wx_P | exact wx_cl | exact wx_pr | exact wx_va | exact wx_si | exact wx_wk) ?_
    refine am_aload_n (i := 0) dC_simplify_75 rfl rfl ?_
    refine am_iconst (v := 0) dC_simplify_76 (by decide) ?_
    refine am_putf' dC_simplify_77 flC_48 (by first | rfl | exact sk8 (by omega) | exact sk9 (by omega) | exact sk10 (by omega) | exact sk11 (by omega)) rfl (fun _ => ⟨rfl, rfl⟩) (by first | exact wx_st | exact wx_mk | exact wx_lv | exact wx_us | exact wx_A | exact wx_P | exact wx_cl | exact wx_pr | exact wx_va | exact wx_si | exact wx_wk) ?_
    have hs : ∀ m, m < n → ∃ j, j < n ∧ S m = nI j := fun m hm => by
      obtain ⟨j, a, b, -⟩ := hj.2 m hm
      exact ⟨j, by omega, b⟩
    have hP : ∀ m, m < n → q_arg (T m 3) m ∧ q_arg (T m 4) m := fun m hm => ⟨(hj.1 m hm).1.1, (hj.1 m hm).1.2.1⟩
    refine am_aload_n (i := 0) dC_simplify_80 rfl rfl ?_
    refine am_callV (ac' := 0) (as' := 0) (xs := []) dC_simplify_81 lkC_112 (by first | rfl | exact sk8 (by omega) | exact sk9 (by omega) | exact sk10 (by omega) | exact sk11 (by omega)) rfl rfl rfl rfl (Nat.le_of_ble_eq_true rfl) rfl rfl (cC_findLive hn hs hP (fun L eL => ?_))
    refine am_iload_n (i := 1) dC_simplify_84 rfl rfl ?_
    refine am_iret (st := []) rfl rfl dC_simplify_85 ?_
    exact k c4 T S U e L he hj eL
  · refine am_bipush (v := (-4)) dC_simplify_7 (by decide) ?_
    refine am_iret (st := []) rfl rfl dC_simplify_9 ?_
    exact ks c4
def q_cnt (lv : Nat → Int32) : Nat → Nat
  | 0 => 0
  | i + 1 => if lv i = 0 then q_cnt lv i else q_cnt lv i + 1
def q_wsum (P : Nat → Nat → Int32) (lv : Nat → Int32) : Nat → Int32
  | 0 => 0
  | i + 1 => if lv i = 0 then q_wsum P lv i else q_wsum P lv i + q_work P i
set_option maxRecDepth 100000 in
set_option maxHeartbeats 4000000 in
theorem lpC_lives {g : am_G} {d : Nat} {Q : Option am_V → am_H → Prop} {Y : Nat → Nat → Nat → am_V} {A P : Nat → Nat → Int32} {st mk lv : Nat → Int32} {cl pr : Nat → Nat → Int32} {us : Nat → Int32} {si wk : Int32} {n : Nat} (hn : n ≤ 28) (K : Q (some (am_I (nI (q_cnt lv n)))) (hm (xc A P st mk lv cl pr us (nI n) si wk) Y)) : ∀ (j i : Nat), i + j = n → am_T g mC_liveValues d 0 0 4 [some (am_O 0 0), some (am_I (nI (q_cnt lv i))), some (am_I (nI i))] [] (hm (xc A P st mk lv cl pr us (nI n) si wk) Y) Q := by
  intro j
  induction j with
  | zero =>
    intro i hi
    refine am_iload_n (i := 2) dC_liveValues_4 rfl rfl ?_
    refine am_aload_n (i := 0) dC_liveValues_5 rfl rfl ?_
    refine am_getf dC_liveValues_6 flC_40 (by first | rfl | exact sk8 (by omega) | exact sk9 (by omega) | exact sk10 (by omega) | exact sk11 (by omega)) rfl ?_
    refine am_icmp_ge_T (tgt := 30) dC_liveValues_9 (by decide) ((nI_le' (by omega) (by omega)).mpr (by omega)) ?_
    refine am_iload_n (i := 1) dC_liveValues_30 rfl rfl ?_
    refine am_iret (st := []) rfl rfl dC_liveValues_31 ?_
    have e : i = n := by omega
    subst e
    exact K
  | succ j ih =>
    intro i hi
    refine am_iload_n (i := 2) dC_liveValues_4 rfl rfl ?_
    refine am_aload_n (i := 0) dC_liveValues_5 rfl rfl ?_
    refine am_getf dC_liveValues_6 flC_40 (by first | rfl | exact sk8 (by omega) | exact sk9 (by omega) | exact sk10 (by omega) | exact sk11 (by omega)) rfl ?_
    refine am_icmp_ge_F (tgt := 30) dC_liveValues_9 (by decide) (fun q => absurd ((nI_le' (by omega) (by omega)).mp q) (by omega)) ?_
    refine am_aload_n (i := 0) dC_liveValues_12 rfl rfl ?_
    refine am_getf dC_liveValues_13 flC_26 (by first | rfl | exact sk8 (by omega) | exact sk9 (by omega) | exact sk10 (by omega) | exact sk11 (by omega)) rfl ?_
    refine am_iload_n (i := 2) dC_liveValues_16 rfl rfl ?_
    refine am_zald dC_liveValues_17 (by first | rfl | exact sk8 (by omega) | exact sk9 (by omega) | exact sk10 (by omega) | exact sk11 (by omega)) rfl (by first | omega | assumption | decide) (by decide) (by decide) rfl ?_
    refine am_if_eq (tgt := 24) dC_liveValues_18 (by decide) (fun c18 => ?_) (fun c18 => ?_)
    · refine am_iinc dC_liveValues_24 rfl (by first | exact nI_1 _ | exact pk_m1 _ | rfl) (by decide) ?_
      refine am_goto (tgt := 4) dC_liveValues_27 (by decide) ?_
      refine am_lT (lv' := [some (am_O 0 0), some (am_I (nI (q_cnt lv (i + 1)))), some (am_I (nI (i + 1)))]) ?_ (ih (i + 1) (by omega))
      show _ = [some (am_O 0 0), some (am_I (nI (if lv i = 0 then q_cnt lv i else q_cnt lv i + 1))), some (am_I (nI (i + 1)))]
      first
        | (rw [if_pos c18]; rfl)
        | (rw [if_neg c18]; rfl)
    · refine am_iinc dC_liveValues_21 rfl (by first | exact nI_1 _ | exact pk_m1 _ | rfl) (by decide) ?_
      refine am_iinc dC_liveValues_24 rfl (by first | exact nI_1 _ | exact pk_m1 _ | rfl) (by decide) ?_
      refine am_goto (tgt := 4) dC_liveValues_27 (by decide) ?_
      refine am_lT (lv' := [some (am_O 0 0), some (am_I (nI (q_cnt lv (i + 1)))), some (am_I (nI (i + 1)))]) ?_ (ih (i + 1) (by omega))
      show _ = [some (am_O 0 0), some (am_I (nI (if lv i = 0 then q_cnt lv i else q_cnt lv i + 1))), some (am_I (nI (i + 1)))]
      first
        | (rw [if_pos c18]; rfl)
        | (rw [if_neg c18]; rfl)
set_option maxRecDepth 100000 in
set_option maxHeartbeats 4000000 in
theorem cC_liveValues {g : am_G} {d : Nat} {Q : Option am_V → am_H → Prop} {Y : Nat → Nat → Nat → am_V} {A P : Nat → Nat → Int32} {st mk lv : Nat → Int32} {cl pr : Nat → Nat → Int32} {us : Nat → Int32} {si wk : Int32} {n : Nat} (hn : n ≤ 28) (k : Q (some (am_I (nI (q_cnt lv n)))) (hm (xc A P st mk lv cl pr us (nI n) si wk) Y)) : am_C g mC_liveValues d 0 0 [am_O 0 0] (hm (xc A P st mk lv cl pr us (nI n) si wk) Y) Q := by
  refine am_enter (lv := [some (am_O 0 0), none, none]) rfl rfl (am_cat1 rfl) (Nat.le_of_ble_eq_true rfl) ?_
  refine am_iconst (v := 0) dC_liveValues_0 (by decide) ?_
  refine am_istore_n (i := 1) dC_liveValues_1 rfl (by decide) ?_
  refine am_iconst (v := 0) dC_liveValues_2 (by decide) ?_
  refine am_istore_n (i := 2) dC_liveValues_3 rfl (by decide) ?_
  exact lpC_lives hn k n 0 (by omega)
set_option maxRecDepth 100000 in
set_option maxHeartbeats 4000000 in
theorem lpC_wlive {g : am_G} {d : Nat} {Q : Option am_V → am_H → Prop} {Y : Nat → Nat → Nat → am_V} {A P : Nat → Nat → Int32} {st mk lv : Nat → Int32} {cl pr : Nat → Nat → Int32} {us : Nat → Int32} {si wk : Int32} {n : Nat} (hn : n ≤ 28) (hP : ∀ v, v < n → q_ok P v) (K : Q (some (am_I (q_wsum P lv n))) (hm (xc A P st mk lv cl pr us (nI n) si wk) Y)) : ∀ (j i : Nat), i + j = n → am_T g mC_workOfLive (d + 1) 0 0 4 [some (am_O 0 0), some (am_I (q_wsum P lv i)), some (am_I (nI i))] [] (hm (xc A P st mk lv cl pr us (nI n) si wk) Y) Q := by
  intro j
  induction j with
  | zero =>
    intro i hi
    refine am_iload_n (i := 2) dC_workOfLive_4 rfl rfl ?_
    refine am_aload_n (i := 0) dC_workOfLive_5 rfl rfl ?_
    refine am_getf dC_workOfLive_6 flC_40 (by first | rfl | exact sk8 (by omega) | exact sk9 (by omega) | exact sk10 (by omega) | exact sk11 (by omega)) rfl ?_
    refine am_icmp_ge_T (tgt := 40) dC_workOfLive_9 (by decide) ((nI_le' (by omega) (by omega)).mpr (by omega)) ?_
    refine am_iload_n (i := 1) dC_workOfLive_40 rfl rfl ?_
    refine am_iret (st := []) rfl rfl dC_workOfLive_41 ?_
    have e : i = n := by omega
    subst e
    exact K
  | succ j ih =>
    intro i hi
    refine am_iload_n (i := 2) dC_workOfLive_4 rfl rfl ?_
    refine am_aload_n (i := 0) dC_workOfLive_5 rfl rfl ?_
    refine am_getf dC_workOfLive_6 flC_40 (by first | rfl | exact sk8 (by omega) | exact sk9 (by omega) | exact sk10 (by omega) | exact sk11 (by omega)) rfl ?_
    refine am_icmp_ge_F (tgt := 40) dC_workOfLive_9 (by decide) (fun q => absurd ((nI_le' (by omega) (by omega)).mp q) (by omega)) ?_
    refine am_aload_n (i := 0) dC_workOfLive_12 rfl rfl ?_
    refine am_getf dC_workOfLive_13 flC_26 (by first | rfl | exact sk8 (by omega) | exact sk9 (by omega) | exact sk10 (by omega) | exact sk11 (by omega)) rfl ?_
    refine am_iload_n (i := 2) dC_workOfLive_16 rfl rfl ?_
    refine am_zald dC_workOfLive_17 (by first | rfl | exact sk8 (by omega) | exact sk9 (by omega) | exact sk10 (by omega) | exact sk11 (by omega)) rfl (by first | omega | assumption | decide) (by decide) (by decide) rfl ?_
    refine am_if_eq (tgt := 34) dC_workOfLive_18 (by decide) (fun c18 => ?_) (fun c18 => ?_)
    · refine am_iinc dC_workOfLive_34 rfl (by first | exact nI_1 _ | exact pk_m1 _ | rfl) (by decide) ?_
      refine am_goto (tgt := 4) dC_workOfLive_37 (by decide) ?_
      refine am_lT (lv' := [some (am_O 0 0), some (am_I (q_wsum P lv (i + 1))), some (am_I (nI (i + 1)))]) ?_ (ih (i + 1) (by omega))
      show _ = [some (am_O 0 0), some (am_I (if lv i = 0 then q_wsum P lv i else q_wsum P lv i + q_work P i)), some (am_I (nI (i + 1)))]
      first
        | (rw [if_pos c18]; rfl)
        | (rw [if_neg c18, ← er]; rfl)
    · have hk := hP i (by omega)
      have hq : ¬ P i 3 = -1 ∨ ¬ 2 < P i 0 := by
        by_cases h2 : 2 < P i 0
        · exact Or.inl (hk.1.2.2.1 h2)
        · exact Or.inr h2
      refine am_iload_n (i := 1) dC_workOfLive_21 rfl rfl ?_
      refine am_aload_n (i := 0) dC_workOfLive_22 rfl rfl ?_
      refine am_aload_n (i := 0) dC_workOfLive_23 rfl rfl ?_
      refine am_getf dC_workOfLive_24 flC_15 (by first | rfl | exact sk8 (by omega) | exact sk9 (by omega) | exact sk10 (by omega) | exact sk11 (by omega)) rfl ?_
      refine am_iload_n (i := 2) dC_workOfLive_27 rfl rfl ?_
      refine am_aald dC_workOfLive_28 (by first | rfl | exact sk8 (by omega) | exact sk9 (by omega) | exact sk10 (by omega) | exact sk11 (by omega)) rfl (by first | omega | assumption | decide) (by decide) (by decide) rfl rfl ?_
      refine am_callV (ac' := 0) (as' := 0) (xs := [_]) dC_workOfLive_29 lkC_161 (by first | rfl | exact sk8 (by omega) | exact sk9 (by omega) | exact sk10 (by omega) | exact sk11 (by omega)) rfl rfl rfl rfl (Nat.le_of_ble_eq_true rfl) rfl rfl (cC_workOf (by omega) hk.1.1 hk.1.2.1 hq (fun r er => ?_))
      refine am_iadd dC_workOfLive_32 ?_
      refine am_istore_n (i := 1) dC_workOfLive_33 rfl (by decide) ?_
      refine am_iinc dC_workOfLive_34 rfl (by first | exact nI_1 _ | exact pk_m1 _ | rfl) (by decide) ?_
      refine am_goto (tgt := 4) dC_workOfLive_37 (by decide) ?_
      refine am_lT (lv' := [some (am_O 0 0), some (am_I (q_wsum P lv (i + 1))), some (am_I (nI (i + 1)))]) ?_ (ih (i + 1) (by omega))
      show _ = [some (am_O 0 0), some (am_I (if lv i = 0 then q_wsum P lv i else q_wsum P lv i + q_work P i)), some (am_I (nI (i + 1)))]
      first
        | (rw [if_pos c18]; rfl)
        | (rw [if_neg c18, ← er]; rfl)
set_option maxRecDepth 100000 in
set_option maxHeartbeats 4000000 in
theorem cC_workOfLive {g : am_G} {d : Nat} {Q : Option am_V → am_H → Prop} {Y : Nat → Nat → Nat → am_V} {A P : Nat → Nat → Int32} {st mk lv : Nat → Int32} {cl pr : Nat → Nat → Int32} {us : Nat → Int32} {si wk : Int32} {n : Nat} (hn : n ≤ 28) (hP : ∀ v, v < n → q_ok P v) (k : Q (some (am_I (q_wsum P lv n))) (hm (xc A P st mk lv cl pr us (nI n) si wk) Y)) : am_C g mC_workOfLive (d + 1) 0 0 [am_O 0 0] (hm (xc A P st mk lv cl pr us (nI n) si wk) Y) Q := by
  refine am_enter (lv := [some (am_O 0 0), none, none]) rfl rfl (am_cat1 rfl) (Nat.le_of_ble_eq_true rfl) ?_
  refine am_iconst (v := 0) dC_workOfLive_0 (by decide) ?_
  refine am_istore_n (i := 1) dC_workOfLive_1 rfl (by decide) ?_
  refine am_iconst (v := 0) dC_workOfLive_2 (by decide) ?_
  refine am_istore_n (i := 2) dC_workOfLive_3 rfl (by decide) ?_
  exact lpC_wlive hn hP k n 0 (by omega)
theorem q_ix16 {x : Int32} (h0 : ¬ x < 1) (h1 : ¬ 6 < x) : ∃ j, 1 ≤ j ∧ j ≤ 6 ∧ x = nI j := by
  have a : ¬ x.toInt < 1 := fun q => h0 (Int32.lt_iff_toInt_lt.mpr q)
  have b : ¬ 6 < x.toInt := fun q => h1 (Int32.lt_iff_toInt_lt.mpr q)
  refine ⟨x.toInt.toNat, by omega, by omega, ?_⟩
  apply Int32.toInt_inj.mp
  rw [nI_toInt (by omega)]
  omega
set_option maxRecDepth 100000 in
set_option maxHeartbeats 4000000 in
theorem cC_count {g : am_G} {d : Nat} {Q : Option am_V → am_H → Prop} {Y : Nat → Nat → Nat → am_V} {A P : Nat → Nat → Int32} {st mk lv : Nat → Int32} {cl pr : Nat → Nat → Int32} {us : Nat → Int32} {si wk : Int32} {n : Nat} {x : Int32} (hn : n ≤ 28) (hP : ∀ v, v < n → q_ok P v) (ku : ∀ j, 1 ≤ j → j ≤ 6 → x = nI j → Q (some (am_I (us j))) (hm (xc A P st mk lv cl pr us (nI n) si wk) Y)) (k0 : x = 0 → Q (some (am_I (nI n))) (hm (xc A P st mk lv cl pr us (nI n) si wk) Y)) (k7 : x = 7 → Q (some (am_I (nI (q_cnt lv n)))) (hm (xc A P st mk lv cl pr us (nI n) si wk) Y)) (k8 : x = 8 → Q (some (am_I (q_wsum P lv n))) (hm (xc A P st mk lv cl pr us (nI n) si wk) Y)) (k9 : x = 9 → Q (some (am_I (if si = 0 then 0 else 1))) (hm (xc A P st mk lv cl pr us (nI n) si wk) Y)) (kr : (x.toInt < 0 ∨ 9 < x.toInt) → Q (some (am_I (-1))) (hm (xc A P st mk lv cl pr us (nI n) si wk) Y)) : am_C g mC_count (d + 2) 0 0 [am_O 0 0, am_I x] (hm (xc A P st mk lv cl pr us (nI n) si wk) Y) Q := by
  refine am_enter (lv := [some (am_O 0 0), some (am_I x)]) rfl rfl (am_cat1 rfl) (Nat.le_of_ble_eq_true rfl) ?_
  refine am_iload_n (i := 1) dC_count_0 rfl rfl ?_
  refine am_iconst (v := 1) dC_count_1 (by decide) ?_
  refine am_icmp_lt (tgt := 18) dC_count_2 (by decide) (fun c2 => ?_) (fun c2 => ?_)
  · refine am_iload_n (i := 1) dC_count_18 rfl rfl ?_
    rcases sw_0_9 (x) with s19 | s19 | s19 | s19 | s19 | s19 | s19 | s19 | s19 | s19 | s19
    · refine am_tableIn (off := 53) (tgt := 72) dC_count_19 (by rw [s19]; decide) (by rw [s19]; decide) (by rw [s19]; rfl) (by decide) ?_
      refine am_aload_n (i := 0) dC_count_72 rfl rfl ?_
      refine am_getf dC_count_73 flC_40 (by first | rfl | exact sk8 (by omega) | exact sk9 (by omega) | exact sk10 (by omega) | exact sk11 (by omega)) rfl ?_
      refine am_iret (st := []) rfl rfl dC_count_76 ?_
      exact k0 s19
    · first | exact absurd c2 (by rw [s19]; decide) | exact absurd c8 (by rw [s19]; decide)
    · first | exact absurd c2 (by rw [s19]; decide) | exact absurd c8 (by rw [s19]; decide)
    · first | exact absurd c2 (by rw [s19]; decide) | exact absurd c8 (by rw [s19]; decide)
    · first | exact absurd c2 (by rw [s19]; decide) | exact absurd c8 (by rw [s19]; decide)
    · first | exact absurd c2 (by rw [s19]; decide) | exact absurd c8 (by rw [s19]; decide)
    · first | exact absurd c2 (by rw [s19]; decide) | exact absurd c8 (by rw [s19]; decide)
    · refine am_tableIn (off := 58) (tgt := 77) dC_count_19 (by rw [s19]; decide) (by rw [s19]; decide) (by rw [s19]; rfl) (by decide) ?_
      refine am_aload_n (i := 0) dC_count_77 rfl rfl ?_
      refine am_callV (ac' := 0) (as' := 0) (xs := []) dC_count_78 lkC_144 (by first | rfl | exact sk8 (by omega) | exact sk9 (by omega) | exact sk10 (by omega) | exact sk11 (by omega)) rfl rfl rfl rfl (Nat.le_of_ble_eq_true rfl) rfl rfl (cC_liveValues hn ?_)
      refine am_iret (st := []) rfl rfl dC_count_81 ?_
      exact k7 s19
    · refine am_tableIn (off := 63) (tgt := 82) dC_count_19 (by rw [s19]; decide) (by rw [s19]; decide) (by rw [s19]; rfl) (by decide) ?_
      refine am_aload_n (i := 0) dC_count_82 rfl rfl ?_
      refine am_callV (ac' := 0) (as' := 0) (xs := []) dC_count_83 lkC_119 (by first | rfl | exact sk8 (by omega) | exact sk9 (by omega) | exact sk10 (by omega) | exact sk11 (by omega)) rfl rfl rfl rfl (Nat.le_of_ble_eq_true rfl) rfl rfl (cC_workOfLive hn hP ?_)
      refine am_iret (st := []) rfl rfl dC_count_86 ?_
      exact k8 s19
    · refine am_tableIn (off := 68) (tgt := 87) dC_count_19 (by rw [s19]; decide) (by rw [s19]; decide) (by rw [s19]; rfl) (by decide) ?_
      refine am_aload_n (i := 0) dC_count_87 rfl rfl ?_
      refine am_getf dC_count_88 flC_44 (by first | rfl | exact sk8 (by omega) | exact sk9 (by omega) | exact sk10 (by omega) | exact sk11 (by omega)) rfl ?_
      refine am_if_eq (tgt := 98) dC_count_91 (by decide) (fun c91 => ?_) (fun c91 => ?_)
      · refine am_iconst (v := 0) dC_count_98 (by decide) ?_
        refine am_iret (st := []) rfl rfl dC_count_99 ?_
        first
          | (rw [if_pos c91] at k9; exact k9 s19)
          | (rw [if_neg c91] at k9; exact k9 s19)
      · refine am_iconst (v := 1) dC_count_94 (by decide) ?_
        refine am_goto (tgt := 99) dC_count_95 (by decide) ?_
        refine am_iret (st := []) rfl rfl dC_count_99 ?_
        first
          | (rw [if_pos c91] at k9; exact k9 s19)
          | (rw [if_neg c91] at k9; exact k9 s19)
    · refine am_tableOut (tgt := 100) dC_count_19 s19 (by decide) ?_
      refine am_iconst (v := (-1)) dC_count_100 (by decide) ?_
      refine am_iret (st := []) rfl rfl dC_count_101 ?_
      exact kr s19
  · refine am_iload_n (i := 1) dC_count_5 rfl rfl ?_
    refine am_bipush (v := 6) dC_count_6 (by decide) ?_
    refine am_icmp_gt (tgt := 18) dC_count_8 (by decide) (fun c8 => ?_) (fun c8 => ?_)
    · refine am_iload_n (i := 1) dC_count_18 rfl rfl ?_
      rcases sw_0_9 (x) with s19 | s19 | s19 | s19 | s19 | s19 | s19 | s19 | s19 | s19 | s19
      · refine am_tableIn (off := 53) (tgt := 72) dC_count_19 (by rw [s19]; decide) (by rw [s19]; decide) (by rw [s19]; rfl) (by decide) ?_
        refine am_aload_n (i := 0) dC_count_72 rfl rfl ?_
        refine am_getf dC_count_73 flC_40 (by first | rfl | exact sk8 (by omega) | exact sk9 (by omega) | exact sk10 (by omega) | exact sk11 (by omega)) rfl ?_
        refine am_iret (st := []) rfl rfl dC_count_76 ?_
        exact k0 s19
      · first | exact absurd c2 (by rw [s19]; decide) | exact absurd c8 (by rw [s19]; decide)
      · first | exact absurd c2 (by rw [s19]; decide) | exact absurd c8 (by rw [s19]; decide)
      · first | exact absurd c2 (by rw [s19]; decide) | exact absurd c8 (by rw [s19]; decide)
      · first | exact absurd c2 (by rw [s19]; decide) | exact absurd c8 (by rw [s19]; decide)
      · first | exact absurd c2 (by rw [s19]; decide) | exact absurd c8 (by rw [s19]; decide)
      · first | exact absurd c2 (by rw [s19]; decide) | exact absurd c8 (by rw [s19]; decide)
      · refine am_tableIn (off := 58) (tgt := 77) dC_count_19 (by rw [s19]; decide) (by rw [s19]; decide) (by rw [s19]; rfl) (by decide) ?_
        refine am_aload_n (i := 0) dC_count_77 rfl rfl ?_
        refine am_callV (ac' := 0) (as' := 0) (xs := []) dC_count_78 lkC_144 (by first | rfl | exact sk8 (by omega) | exact sk9 (by omega) | exact sk10 (by omega) | exact sk11 (by omega)) rfl rfl rfl rfl (Nat.le_of_ble_eq_true rfl) rfl rfl (cC_liveValues hn ?_)
        refine am_iret (st := []) rfl rfl dC_count_81 ?_
        exact k7 s19
      · refine am_tableIn (off := 63) (tgt := 82) dC_count_19 (by rw [s19]; decide) (by rw [s19]; decide) (by rw [s19]; rfl) (by decide) ?_
        refine am_aload_n (i := 0) dC_count_82 rfl rfl ?_
        refine am_callV (ac' := 0) (as' := 0) (xs := []) dC_count_83 lkC_119 (by first | rfl | exact sk8 (by omega) | exact sk9 (by omega) | exact sk10 (by omega) | exact sk11 (by omega)) rfl rfl rfl rfl (Nat.le_of_ble_eq_true rfl) rfl rfl (cC_workOfLive hn hP ?_)
        refine am_iret (st := []) rfl rfl dC_count_86 ?_
        exact k8 s19
      · refine am_tableIn (off := 68) (tgt := 87) dC_count_19 (by rw [s19]; decide) (by rw [s19]; decide) (by rw [s19]; rfl) (by decide) ?_
        refine am_aload_n (i := 0) dC_count_87 rfl rfl ?_
        refine am_getf dC_count_88 flC_44 (by first | rfl | exact sk8 (by omega) | exact sk9 (by omega) | exact sk10 (by omega) | exact sk11 (by omega)) rfl ?_
        refine am_if_eq (tgt := 98) dC_count_91 (by decide) (fun c91 => ?_) (fun c91 => ?_)
        · refine am_iconst (v := 0) dC_count_98 (by decide) ?_
          refine am_iret (st := []) rfl rfl dC_count_99 ?_
          first
            | (rw [if_pos c91] at k9; exact k9 s19)
            | (rw [if_neg c91] at k9; exact k9 s19)
        · refine am_iconst (v := 1) dC_count_94 (by decide) ?_
          refine am_goto (tgt := 99) dC_count_95 (by decide) ?_
          refine am_iret (st := []) rfl rfl dC_count_99 ?_
          first
            | (rw [if_pos c91] at k9; exact k9 s19)
            | (rw [if_neg c91] at k9; exact k9 s19)
      · refine am_tableOut (tgt := 100) dC_count_19 s19 (by decide) ?_
        refine am_iconst (v := (-1)) dC_count_100 (by decide) ?_
        refine am_iret (st := []) rfl rfl dC_count_101 ?_
        exact kr s19
    · obtain ⟨j, hj1, hj2, ej⟩ := q_ix16 c2 c8
      refine am_aload_n (i := 0) dC_count_11 rfl rfl ?_
      refine am_getf dC_count_12 flC_37 (by first | rfl | exact sk8 (by omega) | exact sk9 (by omega) | exact sk10 (by omega) | exact sk11 (by omega)) rfl ?_
      refine am_iload_n (i := 1) dC_count_15 rfl rfl ?_
      refine am_iald dC_count_16 (by first | rfl | exact sk8 (by omega) | exact sk9 (by omega) | exact sk10 (by omega) | exact sk11 (by omega)) ej (by first | omega | assumption | decide) (by decide) (by decide) rfl ?_
      refine am_iret (st := []) rfl rfl dC_count_17 ?_
      exact ku j hj1 hj2 ej
set_option maxRecDepth 100000 in
set_option maxHeartbeats 4000000 in
theorem cC_value {g : am_G} {d : Nat} {Q : Option am_V → am_H → Prop} {Y : Nat → Nat → Nat → am_V} {A P : Nat → Nat → Int32} {st mk lv : Nat → Int32} {cl pr : Nat → Nat → Int32} {us : Nat → Int32} {si wk : Int32} {n : Nat} {x y : Int32} (hn : n ≤ 28) (kr : ¬ q_val x n → Q (some (am_I (-1))) (hm (xc A P st mk lv cl pr us (nI n) si wk) Y)) (ko : ∀ v, v < n → x = nI v → (y.toInt < 0 ∨ 7 < y.toInt) → Q (some (am_I (-1))) (hm (xc A P st mk lv cl pr us (nI n) si wk) Y)) (k : ∀ v j, v < n → x = nI v → j ≤ 6 → y = nI j → Q (some (am_I (P v j))) (hm (xc A P st mk lv cl pr us (nI n) si wk) Y)) (k7 : ∀ v, v < n → x = nI v → y = 7 → Q (some (am_I (if lv v = 0 then 0 else 1))) (hm (xc A P st mk lv cl pr us (nI n) si wk) Y)) : am_C g mC_value (d + 1) 0 0 [am_O 0 0, am_I x, am_I y] (hm (xc A P st mk lv cl pr us (nI n) si wk) Y) Q := by
  refine am_enter (lv := [some (am_O 0 0), some (am_I x), some (am_I y), none]) rfl rfl (am_cat1 rfl) (Nat.le_of_ble_eq_true rfl) ?_
  refine am_aload_n (i := 0) dC_value_0 rfl rfl ?_
  refine am_iload_n (i := 1) dC_value_1 rfl rfl ?_
  refine am_callV (ac' := 0) (as' := 0) (xs := [_]) dC_value_2 lkC_67 (by first | rfl | exact sk8 (by omega) | exact sk9 (by omega) | exact sk10 (by omega) | exact sk11 (by omega)) rfl rfl rfl rfl (Nat.le_of_ble_eq_true rfl) rfl rfl (cC_isValue rfl hn (fun v hv ev => ?_) (fun nv => ?_))
  · refine am_if_ne_T (tgt := 10) dC_value_5 (by decide) (by decide) ?_
    refine am_aload_n (i := 0) dC_value_10 rfl rfl ?_
    refine am_getf dC_value_11 flC_15 (by first | rfl | exact sk8 (by omega) | exact sk9 (by omega) | exact sk10 (by omega) | exact sk11 (by omega)) rfl ?_
    refine am_iload_n (i := 1) dC_value_14 rfl rfl ?_
    refine am_aald dC_value_15 (by first | rfl | exact sk8 (by omega) | exact sk9 (by omega) | exact sk10 (by omega) | exact sk11 (by omega)) ev (by first | omega | assumption | decide) (by decide) (by decide) rfl rfl ?_
    refine am_astore_n (i := 3) dC_value_16 rfl (by decide) ?_
    refine am_iload_n (i := 2) dC_value_17 rfl rfl ?_
    rcases sw_0_7 (y) with s18 | s18 | s18 | s18 | s18 | s18 | s18 | s18 | s18
    · refine am_tableIn (off := 46) (tgt := 64) dC_value_18 (by rw [s18]; decide) (by rw [s18]; decide) (by rw [s18]; rfl) (by decide) ?_
      refine am_aload_n (i := 3) dC_value_64 rfl rfl ?_
      refine am_getf dC_value_65 flC_129 (by first | rfl | exact sk8 (by omega) | exact sk9 (by omega) | exact sk10 (by omega) | exact sk11 (by omega)) rfl ?_
      refine am_iret (st := []) rfl rfl dC_value_68 ?_
      exact k v 0 hv ev (by omega) s18
    · refine am_tableIn (off := 51) (tgt := 69) dC_value_18 (by rw [s18]; decide) (by rw [s18]; decide) (by rw [s18]; rfl) (by decide) ?_
      refine am_aload_n (i := 3) dC_value_69 rfl rfl ?_
      refine am_getf dC_value_70 flC_83 (by first | rfl | exact sk8 (by omega) | exact sk9 (by omega) | exact sk10 (by omega) | exact sk11 (by omega)) rfl ?_
      refine am_iret (st := []) rfl rfl dC_value_73 ?_
      exact k v 1 hv ev (by omega) s18
    · refine am_tableIn (off := 56) (tgt := 74) dC_value_18 (by rw [s18]; decide) (by rw [s18]; decide) (by rw [s18]; rfl) (by decide) ?_
      refine am_aload_n (i := 3) dC_value_74 rfl rfl ?_
      refine am_getf dC_value_75 flC_89 (by first | rfl | exact sk8 (by omega) | exact sk9 (by omega) | exact sk10 (by omega) | exact sk11 (by omega)) rfl ?_
      refine am_iret (st := []) rfl rfl dC_value_78 ?_
      exact k v 2 hv ev (by omega) s18
    · refine am_tableIn (off := 61) (tgt := 79) dC_value_18 (by rw [s18]; decide) (by rw [s18]; decide) (by rw [s18]; rfl) (by decide) ?_
      refine am_aload_n (i := 3) dC_value_79 rfl rfl ?_
      refine am_getf dC_value_80 flC_132 (by first | rfl | exact sk8 (by omega) | exact sk9 (by omega) | exact sk10 (by omega) | exact sk11 (by omega)) rfl ?_
      refine am_iret (st := []) rfl rfl dC_value_83 ?_
      exact k v 3 hv ev (by omega) s18
    · refine am_tableIn (off := 66) (tgt := 84) dC_value_18 (by rw [s18]; decide) (by rw [s18]; decide) (by rw [s18]; rfl) (by decide) ?_
      refine am_aload_n (i := 3) dC_value_84 rfl rfl ?_
      refine am_getf dC_value_85 flC_135 (by first | rfl | exact sk8 (by omega) | exact sk9 (by omega) | exact sk10 (by omega) | exact sk11 (by omega)) rfl ?_
      refine am_iret (st := []) rfl rfl dC_value_88 ?_
      exact k v 4 hv ev (by omega) s18
    · refine am_tableIn (off := 71) (tgt := 89) dC_value_18 (by rw [s18]; decide) (by rw [s18]; decide) (by rw [s18]; rfl) (by decide) ?_
      refine am_aload_n (i := 3) dC_value_89 rfl rfl ?_
      refine am_getf dC_value_90 flC_138 (by first | rfl | exact sk8 (by omega) | exact sk9 (by omega) | exact sk10 (by omega) | exact sk11 (by omega)) rfl ?_
      refine am_iret (st := []) rfl rfl dC_value_93 ?_
      exact k v 5 hv ev (by omega) s18
    · refine am_tableIn (off := 76) (tgt := 94) dC_value_18 (by rw [s18]; decide) (by rw [s18]; decide) (by rw [s18]; rfl) (by decide) ?_
      refine am_aload_n (i := 3) dC_value_94 rfl rfl ?_
      refine am_getf dC_value_95 flC_141 (by first | rfl | exact sk8 (by omega) | exact sk9 (by omega) | exact sk10 (by omega) | exact sk11 (by omega)) rfl ?_
      refine am_iret (st := []) rfl rfl dC_value_98 ?_
      exact k v 6 hv ev (by omega) s18
    · refine am_tableIn (off := 81) (tgt := 99) dC_value_18 (by rw [s18]; decide) (by rw [s18]; decide) (by rw [s18]; rfl) (by decide) ?_
      refine am_aload_n (i := 0) dC_value_99 rfl rfl ?_
      refine am_getf dC_value_100 flC_26 (by first | rfl | exact sk8 (by omega) | exact sk9 (by omega) | exact sk10 (by omega) | exact sk11 (by omega)) rfl ?_
      refine am_iload_n (i := 1) dC_value_103 rfl rfl ?_
      refine am_zald dC_value_104 (by first | rfl | exact sk8 (by omega) | exact sk9 (by omega) | exact sk10 (by omega) | exact sk11 (by omega)) ev (by first | omega | assumption | decide) (by decide) (by decide) rfl ?_
      refine am_if_eq (tgt := 112) dC_value_105 (by decide) (fun c105 => ?_) (fun c105 => ?_)
      · refine am_iconst (v := 0) dC_value_112 (by decide) ?_
        refine am_iret (st := []) rfl rfl dC_value_113 ?_
        first
          | (have := k7 v hv ev s18; rw [if_pos c105] at this; exact this)
          | (have := k7 v hv ev s18; rw [if_neg c105] at this; exact this)
      · refine am_iconst (v := 1) dC_value_108 (by decide) ?_
        refine am_goto (tgt := 113) dC_value_109 (by decide) ?_
        refine am_iret (st := []) rfl rfl dC_value_113 ?_
        first
          | (have := k7 v hv ev s18; rw [if_pos c105] at this; exact this)
          | (have := k7 v hv ev s18; rw [if_neg c105] at this; exact this)
    · refine am_tableOut (tgt := 114) dC_value_18 s18 (by decide) ?_
      refine am_iconst (v := (-1)) dC_value_114 (by decide) ?_
      refine am_iret (st := []) rfl rfl dC_value_115 ?_
      exact ko v hv ev s18
  · refine am_if_ne_F (tgt := 10) dC_value_5 (by decide) (by decide) ?_
    refine am_iconst (v := (-1)) dC_value_8 (by decide) ?_
    refine am_iret (st := []) rfl rfl dC_value_9 ?_
    exact kr (by grind)
