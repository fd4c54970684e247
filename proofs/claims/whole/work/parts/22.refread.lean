theorem q_rsn_id {n : Nat} {A P : Nat → Nat → Int32} (h : ∀ i, i < n → ∀ k, k < 7 → P i k = A i k) : q_rsn n A P = P := by
  funext i k
  unfold q_rsn
  split
  · rename_i q
    exact (h i q.1 k (by omega)).symm
  · rfl
theorem q_idn_id {n : Nat} {st : Nat → Int32} (h : ∀ i, i < n → st i = nI i) : q_idn n st = st := by
  funext i
  unfold q_idn
  split
  · rename_i q
    exact (h i q).symm
  · rfl
set_option maxRecDepth 100000 in
set_option maxHeartbeats 4000000 in
theorem lpM_fill {g : am_G} {d : Nat} {Q : Option am_V → am_H → Prop} {X : Nat → Nat → Nat → am_V} {A P : Nat → Nat → Int32} {st mk pa ce wd us : Nat → Int32} {si : Int32} {n : Nat} {o : Option am_V} (K : am_T g mM_simplify (d + 3) 0 0 35 [some (am_O 20 0), some (am_I (nI 7)), o] [] (hm X (ym A P st mk pa ce wd (q_us0 us) (nI n) si)) Q) : ∀ (j i : Nat), i + j = 7 → am_T g mM_simplify (d + 3) 0 0 16 [some (am_O 20 0), some (am_I (nI i)), o] [] (hm X (ym A P st mk pa ce wd (fun r => if r < i then 0 else us r) (nI n) si)) Q := by
  intro j
  induction j with
  | zero =>
    intro i hi
    refine am_iload_n (i := 1) dM_simplify_16 rfl rfl ?_
    refine am_bipush (v := 7) dM_simplify_17 (by decide) ?_
    refine am_icmp_ge_T (tgt := 35) dM_simplify_19 (by decide) ((nI_le' (a := 7) (by omega) (by omega)).mpr (by omega)) ?_
    have e : i = 7 := by omega
    subst e
    exact K
  | succ j ih =>
    intro i hi
    refine am_iload_n (i := 1) dM_simplify_16 rfl rfl ?_
    refine am_bipush (v := 7) dM_simplify_17 (by decide) ?_
    refine am_icmp_ge_F (tgt := 35) dM_simplify_19 (by decide) (fun q => absurd ((nI_le' (a := 7) (by omega) (by omega)).mp q) (by omega)) ?_
    refine am_aload_n (i := 0) dM_simplify_22 rfl rfl ?_
    refine am_getf dM_simplify_23 flM_47 (by first | rfl | exact sk8 (by omega) | exact sk9 (by omega) | exact sk10 (by omega) | exact sk11 (by omega)) rfl ?_
    refine am_iload_n (i := 1) dM_simplify_26 rfl rfl ?_
    refine am_iconst (v := 0) dM_simplify_27 (by decide) ?_
    refine am_iast' dM_simplify_28 (by first | rfl | exact sk8 (by omega) | exact sk9 (by omega) | exact sk10 (by omega) | exact sk11 (by omega)) rfl (by first | omega | assumption | decide) (by decide) (by decide) (by first | exact wm_kd (by omega) | exact wm_kh (by omega) | exact wm_fi (by omega) | exact wm_fh (by omega) | exact wm_se (by omega) | exact wm_sh (by omega) | exact wm_np (by omega) | exact wm_ph (by omega) | exact wm_nq (by omega) | exact wm_qh (by omega) | exact wm_ro | exact wm_co | exact wm_mm | exact wm_sd | exact wm_pa | exact wm_ce | exact wm_wd | exact wm_ud | exact wm_vn | exact wm_sm) ?_
    refine am_iinc dM_simplify_29 rfl (by first | exact nI_1 _ | exact pk_m1 _ | rfl) (by decide) ?_
    refine am_goto (tgt := 16) dM_simplify_32 (by decide) ?_
    refine am_hT (h' := (hm X (ym A P st mk pa ce wd (fun r => if r < i + 1 then 0 else us r) (nI n) si))) ?_ (ih (i + 1) (by omega))
    congr 2
    funext u
    unfold upd
    grind
set_option maxRecDepth 100000 in
set_option maxHeartbeats 4000000 in
theorem lpM_simp {g : am_G} {d : Nat} {Q : Option am_V → am_H → Prop} {X : Nat → Nat → Nat → am_V} {A : Nat → Nat → Int32} {mk pa ce wd : Nat → Int32} {si : Int32} {n : Nat} (hn : n ≤ 28) : ∀ (j i : Nat), i + j = n → ∀ (P : Nat → Nat → Int32) (st us : Nat → Int32) (c : Nat), q_J n i P st → (∀ T S U e, q_run j i P st us c = (T, S, U, e) → am_T g mM_simplify (d + 3) 0 0 71 [some (am_O 20 0), some (am_I (nI e)), some (am_I (nI n))] [] (hm X (ym A T S mk pa ce wd U (nI n) si)) Q) → am_T g mM_simplify (d + 3) 0 0 39 [some (am_O 20 0), some (am_I (nI c)), some (am_I (nI i))] [] (hm X (ym A P st mk pa ce wd us (nI n) si)) Q := by
  intro j
  induction j with
  | zero =>
    intro i hi P st us c hJ K
    refine am_iload_n (i := 2) dM_simplify_39 rfl rfl ?_
    refine am_aload_n (i := 0) dM_simplify_40 rfl rfl ?_
    refine am_getf dM_simplify_41 flM_50 (by first | rfl | exact sk8 (by omega) | exact sk9 (by omega) | exact sk10 (by omega) | exact sk11 (by omega)) rfl ?_
    refine am_icmp_ge_T (tgt := 71) dM_simplify_44 (by decide) ((nI_le' (by omega) (by omega)).mpr (by omega)) ?_
    have e : i = n := by omega
    subst e
    exact K _ _ _ _ rfl
  | succ j ih =>
    intro i hi P st us c hJ K
    refine am_iload_n (i := 2) dM_simplify_39 rfl rfl ?_
    refine am_aload_n (i := 0) dM_simplify_40 rfl rfl ?_
    refine am_getf dM_simplify_41 flM_50 (by first | rfl | exact sk8 (by omega) | exact sk9 (by omega) | exact sk10 (by omega) | exact sk11 (by omega)) rfl ?_
    refine am_icmp_ge_F (tgt := 71) dM_simplify_44 (by decide) (fun q => absurd ((nI_le' (by omega) (by omega)).mp q) (by omega)) ?_
    refine am_aload_n (i := 0) dM_simplify_47 rfl rfl ?_
    refine am_iload_n (i := 2) dM_simplify_48 rfl rfl ?_
    refine am_callV (ac' := 0) (as' := 0) (xs := [_]) dM_simplify_49 lkM_97 (by first | rfl | exact sk8 (by omega) | exact sk9 (by omega) | exact sk10 (by omega) | exact sk11 (by omega)) rfl rfl rfl rfl (Nat.le_of_ble_eq_true rfl) rfl rfl (cM_simplifyOne hn hJ (by omega) ?_)
    refine am_aload_n (i := 0) dM_simplify_52 rfl rfl ?_
    refine am_getf dM_simplify_53 flM_35 (by first | rfl | exact sk8 (by omega) | exact sk9 (by omega) | exact sk10 (by omega) | exact sk11 (by omega)) rfl ?_
    refine am_iload_n (i := 2) dM_simplify_56 rfl rfl ?_
    refine am_iald dM_simplify_57 (by first | rfl | exact sk8 (by omega) | exact sk9 (by omega) | exact sk10 (by omega) | exact sk11 (by omega)) rfl (by first | omega | assumption | decide) (by decide) (by decide) (congrArg am_I (upd_eq _ _ _)) ?_
    refine am_iload_n (i := 2) dM_simplify_58 rfl rfl ?_
    refine am_icmp_ne (tgt := 65) dM_simplify_59 (by decide) (fun c59 => ?_) (fun c59 => ?_)
    · refine am_iinc dM_simplify_65 rfl (by first | exact nI_1 _ | exact pk_m1 _ | rfl) (by decide) ?_
      refine am_goto (tgt := 39) dM_simplify_68 (by decide) ?_
      refine ih (i + 1) (by omega) _ _ _ _ (q_s_J hJ (by omega) hn) (fun T S U e he => K T S U e ?_)
      rw [← he]
      show q_run j (i + 1) (q_sP st P i) (upd st i (q_sx st P i)) (q_sU st P us i) (if q_sx st P i = nI i then c + 1 else c) = _
      rw [if_neg c59]
    · refine am_iinc dM_simplify_62 rfl (by first | exact nI_1 _ | exact pk_m1 _ | rfl) (by decide) ?_
      refine am_iinc dM_simplify_65 rfl (by first | exact nI_1 _ | exact pk_m1 _ | rfl) (by decide) ?_
      refine am_goto (tgt := 39) dM_simplify_68 (by decide) ?_
      refine ih (i + 1) (by omega) _ _ _ _ (q_s_J hJ (by omega) hn) (fun T S U e he => K T S U e ?_)
      rw [← he]
      show q_run j (i + 1) (q_sP st P i) (upd st i (q_sx st P i)) (q_sU st P us i) (if q_sx st P i = nI i then c + 1 else c) = _
      rw [if_pos c59]
set_option maxRecDepth 100000 in
set_option maxHeartbeats 4000000 in
theorem cM_simplify {g : am_G} {d : Nat} {Q : Option am_V → am_H → Prop} {X : Nat → Nat → Nat → am_V} {A P : Nat → Nat → Int32} {st mk pa ce wd us : Nat → Int32} {si : Int32} {n : Nat} (hn : n ≤ 28) (hJ : si = 0 → q_J n 0 P st) (hPA : si = 0 → ∀ i, i < n → ∀ k, k < 7 → P i k = A i k) (hid : si = 0 → ∀ i, i < n → st i = nI i) (ks : ¬ si = 0 → Q (some (am_I (-4))) (hm X (ym A P st mk pa ce wd us (nI n) si))) (k : si = 0 → ∀ T S U e, q_run n 0 P st (q_us0 us) 0 = (T, S, U, e) → Q (some (am_I (nI e))) (hm X (ym A T S mk pa ce (q_wd0 n wd) U (nI n) 1))) : am_C g mM_simplify (d + 3) 0 0 [am_O 20 0] (hm X (ym A P st mk pa ce wd us (nI n) si)) Q := by
  refine am_enter (lv := [some (am_O 20 0), none, none]) rfl rfl (am_cat1 rfl) (Nat.le_of_ble_eq_true rfl) ?_
  refine am_aload_n (i := 0) dM_simplify_0 rfl rfl ?_
  refine am_getf dM_simplify_1 flM_54 (by first | rfl | exact sk8 (by omega) | exact sk9 (by omega) | exact sk10 (by omega) | exact sk11 (by omega)) rfl ?_
  refine am_if_eq (tgt := 10) dM_simplify_4 (by decide) (fun c4 => ?_) (fun c4 => ?_)
  · refine am_aload_n (i := 0) dM_simplify_10 rfl rfl ?_
    refine am_callV (ac' := 0) (as' := 0) (xs := []) dM_simplify_11 lkM_58 (by first | rfl | exact sk8 (by omega) | exact sk9 (by omega) | exact sk10 (by omega) | exact sk11 (by omega)) rfl rfl rfl rfl (Nat.le_of_ble_eq_true rfl) rfl rfl (cM_restore hn ?_)
    rw [q_rsn_id (hPA c4), q_idn_id (hid c4)]
    refine am_iconst (v := 0) dM_simplify_14 (by decide) ?_
    refine am_istore_n (i := 1) dM_simplify_15 rfl (by decide) ?_
    refine am_hT (h' := (hm X (ym A P st mk pa ce (q_wd0 n wd) (fun r => if r < 0 then 0 else us r) (nI n) 0))) (by congr 2) (lpM_fill ?_ 7 0 (by omega))
    refine am_iconst (v := 0) dM_simplify_35 (by decide) ?_
    refine am_istore_n (i := 1) dM_simplify_36 rfl (by decide) ?_
    refine am_iconst (v := 0) dM_simplify_37 (by decide) ?_
    refine am_istore_n (i := 2) dM_simplify_38 rfl (by decide) ?_
    refine lpM_simp hn n 0 (by omega) P st (q_us0 us) 0 (hJ c4) (fun T S U e he => ?_)
    refine am_aload_n (i := 0) dM_simplify_71 rfl rfl ?_
    refine am_iconst (v := 1) dM_simplify_72 (by decide) ?_
    refine am_putf' dM_simplify_73 flM_54 (by first | rfl | exact sk8 (by omega) | exact sk9 (by omega) | exact sk10 (by omega) | exact sk11 (by omega)) rfl (fun _ => ⟨rfl, rfl⟩) (by first | exact wm_kd (by omega) | exact wm_kh (by omega) | exact wm_fi (by omega) | exact wm_fh (by omega) | exact wm_se (by omega) | exact wm_sh (by omega) | exact wm_np (by omega) | exact wm_ph (by omega) | exact wm_nq (by omega) | exact wm_qh (by omega) | exact wm_ro | exact wm_co | exact wm_mm | exact wm_sd | exact wm_pa | exact wm_ce | exact wm_wd | exact wm_ud | exact wm_vn | exact wm_sm) ?_
    refine am_iload_n (i := 1) dM_simplify_76 rfl rfl ?_
    refine am_iret (st := []) rfl rfl dM_simplify_77 ?_
    exact k c4 T S U e he
  · refine am_bipush (v := (-4)) dM_simplify_7 (by decide) ?_
    refine am_iret (st := []) rfl rfl dM_simplify_9 ?_
    exact ks c4
set_option maxRecDepth 100000 in
set_option maxHeartbeats 4000000 in
theorem cM_workOf {g : am_G} {d : Nat} {Q : Option am_V → am_H → Prop} {X : Nat → Nat → Nat → am_V} {A P : Nat → Nat → Int32} {st mk pa ce wd us : Nat → Int32} {va si : Int32} {v : Nat} (hv : v < 28) (h3 : q_arg (P v 3) v) (hq : 2 < P v 0 → ¬ P v 3 = -1) (k : ∀ r, r = q_work P v → Q (some (am_I r)) (hm X (ym A P st mk pa ce wd us va si))) : am_C g mM_workOf d 0 0 [am_O 20 0, am_I (nI v)] (hm X (ym A P st mk pa ce wd us va si)) Q := by
  refine am_enter (lv := [some (am_O 20 0), some (am_I (nI v))]) rfl rfl (am_cat1 rfl) (Nat.le_of_ble_eq_true rfl) ?_
  refine am_aload_n (i := 0) dM_workOf_0 rfl rfl ?_
  refine am_getf dM_workOf_1 flM_7 (by first | rfl | exact sk8 (by omega) | exact sk9 (by omega) | exact sk10 (by omega) | exact sk11 (by omega)) rfl ?_
  refine am_iload_n (i := 1) dM_workOf_4 rfl rfl ?_
  refine am_iald dM_workOf_5 (by first | rfl | exact sk8 (by omega) | exact sk9 (by omega) | exact sk10 (by omega) | exact sk11 (by omega)) rfl (by first | omega | assumption | decide) (by decide) (by decide) (by first | exact congrArg am_I (mkd_lo (by omega)) | exact congrArg am_I (mkd_hi (by omega)) | rfl) ?_
  refine am_iconst (v := 3) dM_workOf_6 (by decide) ?_
  refine am_icmp_ge (tgt := 12) dM_workOf_7 (by decide) (fun c7 => ?_) (fun c7 => ?_)
  · obtain ⟨g3, e3⟩ := h3.ix (hq (by grind)) (by omega)
    refine am_aload_n (i := 0) dM_workOf_12 rfl rfl ?_
    refine am_getf dM_workOf_13 flM_7 (by first | rfl | exact sk8 (by omega) | exact sk9 (by omega) | exact sk10 (by omega) | exact sk11 (by omega)) rfl ?_
    refine am_iload_n (i := 1) dM_workOf_16 rfl rfl ?_
    refine am_iald dM_workOf_17 (by first | rfl | exact sk8 (by omega) | exact sk9 (by omega) | exact sk10 (by omega) | exact sk11 (by omega)) rfl (by first | omega | assumption | decide) (by decide) (by decide) (by first | exact congrArg am_I (mkd_lo (by omega)) | exact congrArg am_I (mkd_hi (by omega)) | rfl) ?_
    refine am_bipush (v := 9) dM_workOf_18 (by decide) ?_
    refine am_icmp_ne (tgt := 47) dM_workOf_20 (by decide) (fun c20 => ?_) (fun c20 => ?_)
    · refine am_aload_n (i := 0) dM_workOf_47 rfl rfl ?_
      refine am_getf dM_workOf_48 flM_25 (by first | rfl | exact sk8 (by omega) | exact sk9 (by omega) | exact sk10 (by omega) | exact sk11 (by omega)) rfl ?_
      refine am_iload_n (i := 1) dM_workOf_51 rfl rfl ?_
      refine am_iald dM_workOf_52 (by first | rfl | exact sk8 (by omega) | exact sk9 (by omega) | exact sk10 (by omega) | exact sk11 (by omega)) rfl (by first | omega | assumption | decide) (by decide) (by decide) (by first | exact congrArg am_I (mkd_lo (by omega)) | exact congrArg am_I (mkd_hi (by omega)) | rfl) ?_
      refine am_aload_n (i := 0) dM_workOf_53 rfl rfl ?_
      refine am_getf dM_workOf_54 flM_28 (by first | rfl | exact sk8 (by omega) | exact sk9 (by omega) | exact sk10 (by omega) | exact sk11 (by omega)) rfl ?_
      refine am_iload_n (i := 1) dM_workOf_57 rfl rfl ?_
      refine am_iald dM_workOf_58 (by first | rfl | exact sk8 (by omega) | exact sk9 (by omega) | exact sk10 (by omega) | exact sk11 (by omega)) rfl (by first | omega | assumption | decide) (by decide) (by decide) (by first | exact congrArg am_I (mkd_lo (by omega)) | exact congrArg am_I (mkd_hi (by omega)) | rfl) ?_
      refine am_imul dM_workOf_59 ?_
      refine am_aload_n (i := 0) dM_workOf_60 rfl rfl ?_
      refine am_getf dM_workOf_61 flM_7 (by first | rfl | exact sk8 (by omega) | exact sk9 (by omega) | exact sk10 (by omega) | exact sk11 (by omega)) rfl ?_
      refine am_iload_n (i := 1) dM_workOf_64 rfl rfl ?_
      refine am_iald dM_workOf_65 (by first | rfl | exact sk8 (by omega) | exact sk9 (by omega) | exact sk10 (by omega) | exact sk11 (by omega)) rfl (by first | omega | assumption | decide) (by decide) (by decide) (by first | exact congrArg am_I (mkd_lo (by omega)) | exact congrArg am_I (mkd_hi (by omega)) | rfl) ?_
      refine am_bipush (v := 8) dM_workOf_66 (by decide) ?_
      refine am_icmp_ne (tgt := 85) dM_workOf_68 (by decide) (fun c68 => ?_) (fun c68 => ?_)
      · refine am_iconst (v := 1) dM_workOf_85 (by decide) ?_
        refine am_imul dM_workOf_86 ?_
        refine am_iret (st := []) rfl rfl dM_workOf_87 ?_
        exact k _ (by unfold q_work; grind)
      · refine am_aload_n (i := 0) dM_workOf_71 rfl rfl ?_
        refine am_getf dM_workOf_72 flM_28 (by first | rfl | exact sk8 (by omega) | exact sk9 (by omega) | exact sk10 (by omega) | exact sk11 (by omega)) rfl ?_
        refine am_aload_n (i := 0) dM_workOf_75 rfl rfl ?_
        refine am_getf dM_workOf_76 flM_13 (by first | rfl | exact sk8 (by omega) | exact sk9 (by omega) | exact sk10 (by omega) | exact sk11 (by omega)) rfl ?_
        refine am_iload_n (i := 1) dM_workOf_79 rfl rfl ?_
        refine am_iald dM_workOf_80 (by first | rfl | exact sk8 (by omega) | exact sk9 (by omega) | exact sk10 (by omega) | exact sk11 (by omega)) rfl (by first | omega | assumption | decide) (by decide) (by decide) (by first | exact congrArg am_I (mkd_lo (by omega)) | exact congrArg am_I (mkd_hi (by omega)) | rfl) ?_
        refine am_iald dM_workOf_81 (by first | rfl | exact sk8 (by omega) | exact sk9 (by omega) | exact sk10 (by omega) | exact sk11 (by omega)) e3 (by first | omega | assumption | decide) (by decide) (by decide) (by first | exact congrArg am_I (mkd_lo (by omega)) | exact congrArg am_I (mkd_hi (by omega)) | rfl) ?_
        refine am_goto (tgt := 86) dM_workOf_82 (by decide) ?_
        refine am_imul dM_workOf_86 ?_
        refine am_iret (st := []) rfl rfl dM_workOf_87 ?_
        exact k _ (by unfold q_work; grind)
    · refine am_aload_n (i := 0) dM_workOf_23 rfl rfl ?_
      refine am_getf dM_workOf_24 flM_25 (by first | rfl | exact sk8 (by omega) | exact sk9 (by omega) | exact sk10 (by omega) | exact sk11 (by omega)) rfl ?_
      refine am_aload_n (i := 0) dM_workOf_27 rfl rfl ?_
      refine am_getf dM_workOf_28 flM_13 (by first | rfl | exact sk8 (by omega) | exact sk9 (by omega) | exact sk10 (by omega) | exact sk11 (by omega)) rfl ?_
      refine am_iload_n (i := 1) dM_workOf_31 rfl rfl ?_
      refine am_iald dM_workOf_32 (by first | rfl | exact sk8 (by omega) | exact sk9 (by omega) | exact sk10 (by omega) | exact sk11 (by omega)) rfl (by first | omega | assumption | decide) (by decide) (by decide) (by first | exact congrArg am_I (mkd_lo (by omega)) | exact congrArg am_I (mkd_hi (by omega)) | rfl) ?_
      refine am_iald dM_workOf_33 (by first | rfl | exact sk8 (by omega) | exact sk9 (by omega) | exact sk10 (by omega) | exact sk11 (by omega)) e3 (by first | omega | assumption | decide) (by decide) (by decide) (by first | exact congrArg am_I (mkd_lo (by omega)) | exact congrArg am_I (mkd_hi (by omega)) | rfl) ?_
      refine am_aload_n (i := 0) dM_workOf_34 rfl rfl ?_
      refine am_getf dM_workOf_35 flM_28 (by first | rfl | exact sk8 (by omega) | exact sk9 (by omega) | exact sk10 (by omega) | exact sk11 (by omega)) rfl ?_
      refine am_aload_n (i := 0) dM_workOf_38 rfl rfl ?_
      refine am_getf dM_workOf_39 flM_13 (by first | rfl | exact sk8 (by omega) | exact sk9 (by omega) | exact sk10 (by omega) | exact sk11 (by omega)) rfl ?_
      refine am_iload_n (i := 1) dM_workOf_42 rfl rfl ?_
      refine am_iald dM_workOf_43 (by first | rfl | exact sk8 (by omega) | exact sk9 (by omega) | exact sk10 (by omega) | exact sk11 (by omega)) rfl (by first | omega | assumption | decide) (by decide) (by decide) (by first | exact congrArg am_I (mkd_lo (by omega)) | exact congrArg am_I (mkd_hi (by omega)) | rfl) ?_
      refine am_iald dM_workOf_44 (by first | rfl | exact sk8 (by omega) | exact sk9 (by omega) | exact sk10 (by omega) | exact sk11 (by omega)) e3 (by first | omega | assumption | decide) (by decide) (by decide) (by first | exact congrArg am_I (mkd_lo (by omega)) | exact congrArg am_I (mkd_hi (by omega)) | rfl) ?_
      refine am_imul dM_workOf_45 ?_
      refine am_iret (st := []) rfl rfl dM_workOf_46 ?_
      exact k _ (by unfold q_work; grind)
  · refine am_iconst (v := 0) dM_workOf_10 (by decide) ?_
    refine am_iret (st := []) rfl rfl dM_workOf_11 ?_
    exact k _ (by unfold q_work; grind)
theorem nI_vij (v i j : Nat) : nI v * 16 + nI i * 4 + nI j = nI (v * 16 + i * 4 + j) := by
  rw [← nI_add, ← nI_add, ← pk_mul, ← pk_mul]
  rfl
set_option maxRecDepth 100000 in
set_option maxHeartbeats 4000000 in
theorem cM_at {g : am_G} {d : Nat} {Q : Option am_V → am_H → Prop} {X : Nat → Nat → Nat → am_V} {A P : Nat → Nat → Int32} {st mk pa ce wd us : Nat → Int32} {va si : Int32} {v i0 j0 : Nat} {x i j : Int32} (hv : v < 28) (hx : x = nI v) (hi : i = nI i0) (hj : j = nI j0) (hi4 : i0 < 4) (hj4 : j0 < 4) (k : ∀ r, r = ce (v * 16 + i0 * 4 + j0) → Q (some (am_I r)) (hm X (ym A P st mk pa ce wd us va si))) : am_C g mM_at d 0 0 [am_O 20 0, am_I x, am_I i, am_I j] (hm X (ym A P st mk pa ce wd us va si)) Q := by
  refine am_enter (lv := [some (am_O 20 0), some (am_I x), some (am_I i), some (am_I j)]) rfl rfl (am_cat1 rfl) (Nat.le_of_ble_eq_true rfl) ?_
  refine am_aload_n (i := 0) dM_at_0 rfl rfl ?_
  refine am_getf dM_at_1 flM_41 (by first | rfl | exact sk8 (by omega) | exact sk9 (by omega) | exact sk10 (by omega) | exact sk11 (by omega)) rfl ?_
  refine am_iload_n (i := 1) dM_at_4 rfl rfl ?_
  refine am_bipush (v := 16) dM_at_5 (by decide) ?_
  refine am_imul dM_at_7 ?_
  refine am_iload_n (i := 2) dM_at_8 rfl rfl ?_
  refine am_iconst (v := 4) dM_at_9 (by decide) ?_
  refine am_imul dM_at_10 ?_
  refine am_iadd dM_at_11 ?_
  refine am_iload_n (i := 3) dM_at_12 rfl rfl ?_
  refine am_iadd dM_at_13 ?_
  refine am_iald dM_at_14 (by first | rfl | exact sk8 (by omega) | exact sk9 (by omega) | exact sk10 (by omega) | exact sk11 (by omega)) (show x * 16 + i * 4 + j = nI (v * 16 + i0 * 4 + j0) by rw [hx, hi, hj]; exact nI_vij v i0 j0) (by first | omega | assumption | decide) (by decide) (by decide) (by first | exact congrArg am_I (mkd_lo (by omega)) | exact congrArg am_I (mkd_hi (by omega)) | rfl) ?_
  refine am_iret (st := []) rfl rfl dM_at_15 ?_
  exact k _ rfl
set_option maxRecDepth 100000 in
set_option maxHeartbeats 4000000 in
theorem cM_cell {g : am_G} {d : Nat} {Q : Option am_V → am_H → Prop} {X : Nat → Nat → Nat → am_V} {A P : Nat → Nat → Int32} {st mk pa ce wd us : Nat → Int32} {si : Int32} {n : Nat} {x i j : Int32} (hn : n ≤ 28) (hP : ∀ u, u < n → q_ok P u) (kN : ¬ (q_val x n ∧ ¬ wd (ix x) = 0 ∧ ¬ i < 0 ∧ ¬ P (ix x) 1 ≤ i ∧ ¬ j < 0 ∧ j < P (ix x) 2) → Q (some (am_J (-1000000000000))) (hm X (ym A P st mk pa ce wd us (nI n) si))) (k : ∀ v i0 j0, v < n → x = nI v → ¬ wd v = 0 → i = nI i0 → j = nI j0 → i0 < ix (P v 1) → j0 < ix (P v 2) → Q (some (am_J (ce (v * 16 + i0 * 4 + j0)).toInt64)) (hm X (ym A P st mk pa ce wd us (nI n) si))) : am_C g mM_cell (d + 1) 0 0 [am_O 20 0, am_I x, am_I i, am_I j] (hm X (ym A P st mk pa ce wd us (nI n) si)) Q := by
  refine am_enter (lv := [some (am_O 20 0), some (am_I x), some (am_I i), some (am_I j)]) rfl rfl (am_cat1 rfl) (Nat.le_of_ble_eq_true rfl) ?_
  refine am_aload_n (i := 0) dM_cell_0 rfl rfl ?_
  refine am_iload_n (i := 1) dM_cell_1 rfl rfl ?_
  refine am_callV (ac' := 0) (as' := 0) (xs := [_]) dM_cell_2 lkM_69 (by first | rfl | exact sk8 (by omega) | exact sk9 (by omega) | exact sk10 (by omega) | exact sk11 (by omega)) rfl rfl rfl rfl (Nat.le_of_ble_eq_true rfl) rfl rfl (cM_no hn (fun nv => ?_) (fun v hv ev => ?_))
  · refine am_if_ne_T (tgt := 45) dM_cell_5 (by decide) (by decide) ?_
    refine am_ldc2 dM_cell_45 klM_117 ?_
    refine am_lret (st := []) rfl dM_cell_48 ?_
    exact kN (fun q => q.1 nv)
  · refine am_if_ne_F (tgt := 45) dM_cell_5 (by decide) (by decide) ?_
    refine am_aload_n (i := 0) dM_cell_8 rfl rfl ?_
    refine am_getf dM_cell_9 flM_44 (by first | rfl | exact sk8 (by omega) | exact sk9 (by omega) | exact sk10 (by omega) | exact sk11 (by omega)) rfl ?_
    refine am_iload_n (i := 1) dM_cell_12 rfl rfl ?_
    refine am_zald dM_cell_13 (by first | rfl | exact sk8 (by omega) | exact sk9 (by omega) | exact sk10 (by omega) | exact sk11 (by omega)) ev (by first | omega | assumption | decide) (by decide) (by decide) (by first | exact congrArg am_I (mkd_lo (by omega)) | exact congrArg am_I (mkd_hi (by omega)) | rfl) ?_
    refine am_if_eq (tgt := 45) dM_cell_14 (by decide) (fun c14 => ?_) (fun c14 => ?_)
    · refine am_ldc2 dM_cell_45 klM_117 ?_
      refine am_lret (st := []) rfl dM_cell_48 ?_
      have exv : ix x = v := by rw [ev, ix_nI (by omega)]
      exact kN (by rw [exv]; grind)
    · refine am_iload_n (i := 2) dM_cell_17 rfl rfl ?_
      refine am_if_lt (tgt := 45) dM_cell_18 (by decide) (fun c18 => ?_) (fun c18 => ?_)
      · refine am_ldc2 dM_cell_45 klM_117 ?_
        refine am_lret (st := []) rfl dM_cell_48 ?_
        have exv : ix x = v := by rw [ev, ix_nI (by omega)]
        exact kN (by rw [exv]; grind)
      · refine am_iload_n (i := 2) dM_cell_21 rfl rfl ?_
        refine am_aload_n (i := 0) dM_cell_22 rfl rfl ?_
        refine am_getf dM_cell_23 flM_25 (by first | rfl | exact sk8 (by omega) | exact sk9 (by omega) | exact sk10 (by omega) | exact sk11 (by omega)) rfl ?_
        refine am_iload_n (i := 1) dM_cell_26 rfl rfl ?_
        refine am_iald dM_cell_27 (by first | rfl | exact sk8 (by omega) | exact sk9 (by omega) | exact sk10 (by omega) | exact sk11 (by omega)) ev (by first | omega | assumption | decide) (by decide) (by decide) (by first | exact congrArg am_I (mkd_lo (by omega)) | exact congrArg am_I (mkd_hi (by omega)) | rfl) ?_
        refine am_icmp_ge (tgt := 45) dM_cell_28 (by decide) (fun c28 => ?_) (fun c28 => ?_)
        · refine am_ldc2 dM_cell_45 klM_117 ?_
          refine am_lret (st := []) rfl dM_cell_48 ?_
          have exv : ix x = v := by rw [ev, ix_nI (by omega)]
          exact kN (by rw [exv]; grind)
        · refine am_iload_n (i := 3) dM_cell_31 rfl rfl ?_
          refine am_if_lt (tgt := 45) dM_cell_32 (by decide) (fun c32 => ?_) (fun c32 => ?_)
          · refine am_ldc2 dM_cell_45 klM_117 ?_
            refine am_lret (st := []) rfl dM_cell_48 ?_
            have exv : ix x = v := by rw [ev, ix_nI (by omega)]
            exact kN (by rw [exv]; grind)
          · refine am_iload_n (i := 3) dM_cell_35 rfl rfl ?_
            refine am_aload_n (i := 0) dM_cell_36 rfl rfl ?_
            refine am_getf dM_cell_37 flM_28 (by first | rfl | exact sk8 (by omega) | exact sk9 (by omega) | exact sk10 (by omega) | exact sk11 (by omega)) rfl ?_
            refine am_iload_n (i := 1) dM_cell_40 rfl rfl ?_
            refine am_iald dM_cell_41 (by first | rfl | exact sk8 (by omega) | exact sk9 (by omega) | exact sk10 (by omega) | exact sk11 (by omega)) ev (by first | omega | assumption | decide) (by decide) (by decide) (by first | exact congrArg am_I (mkd_lo (by omega)) | exact congrArg am_I (mkd_hi (by omega)) | rfl) ?_
            refine am_icmp_lt (tgt := 49) dM_cell_42 (by decide) (fun c42 => ?_) (fun c42 => ?_)
            · obtain ⟨i0, hi0, ei0⟩ := q_ixr c18 (hP v hv).2.2.2.1 c28
              obtain ⟨j0, hj0, ej0⟩ := q_ixr' c32 (hP v hv).2.2.2.2 c42
              have t1 := (q_dim_pos (hP v hv).2.2.2.1).2.1
              have t2 := (q_dim_pos (hP v hv).2.2.2.2).2.1
              refine am_aload_n (i := 0) dM_cell_49 rfl rfl ?_
              refine am_iload_n (i := 1) dM_cell_50 rfl rfl ?_
              refine am_iload_n (i := 2) dM_cell_51 rfl rfl ?_
              refine am_iload_n (i := 3) dM_cell_52 rfl rfl ?_
              refine am_callV (ac' := 0) (as' := 0) (xs := [_, _, _]) dM_cell_53 lkM_101 (by first | rfl | exact sk8 (by omega) | exact sk9 (by omega) | exact sk10 (by omega) | exact sk11 (by omega)) rfl rfl rfl rfl (Nat.le_of_ble_eq_true rfl) rfl rfl (cM_at (by omega) ev ei0 ej0 (by omega) (by omega) (fun r er => ?_))
              refine am_i2l dM_cell_56 ?_
              refine am_lret (st := []) rfl dM_cell_57 ?_
              exact er ▸ k v i0 j0 hv ev c14 ei0 ej0 hi0 hj0
            · refine am_ldc2 dM_cell_45 klM_117 ?_
              refine am_lret (st := []) rfl dM_cell_48 ?_
              have exv : ix x = v := by rw [ev, ix_nI (by omega)]
              exact kN (by rw [exv]; grind)
theorem q_off7 {y : Int32} (h : y < 0 ∨ ¬ y ≤ 7) : y.toInt < 0 ∨ 7 < y.toInt := by
  rcases h with h | h
  · exact Or.inl (Int32.lt_iff_toInt_lt.mp h)
  · exact Or.inr (Int32.lt_iff_toInt_lt.mp (Int32.not_le.mp h))
theorem q_on7 {y : Int32} (h : ¬ (y < 0 ∨ ¬ y ≤ 7)) (h6 : y.toInt < 0 ∨ 6 < y.toInt) : y = 7 := by
  have a : ¬ y.toInt < 0 := fun q => h (Or.inl (Int32.lt_iff_toInt_lt.mpr q))
  have s7 : (7 : Int32).toInt = 7 := by decide
  have b : ¬ 7 < y.toInt := fun q => h (Or.inr (fun z => absurd (Int32.lt_iff_toInt_lt.mpr (by rw [s7]; exact q) : (7 : Int32) < y) (Int32.not_lt.mpr z)))
  apply Int32.toInt_inj.mp
  have : (7 : Int32).toInt = 7 := by decide
  omega
set_option maxRecDepth 100000 in
set_option maxHeartbeats 4000000 in
theorem cM_value {g : am_G} {d : Nat} {Q : Option am_V → am_H → Prop} {X : Nat → Nat → Nat → am_V} {A P : Nat → Nat → Int32} {st mk pa ce wd us : Nat → Int32} {si : Int32} {n : Nat} {x y : Int32} (hn : n ≤ 28) (hs : ∀ m, m < n → ∃ j, j < n ∧ st m = nI j) (hP : ∀ m, m < n → q_arg (P m 3) m ∧ q_arg (P m 4) m) (kr : ¬ q_val x n → Q (some (am_I (-1))) (hm X (ym A P st mk pa ce wd us (nI n) si))) (ko : ∀ v, v < n → x = nI v → (y.toInt < 0 ∨ 7 < y.toInt) → Q (some (am_I (-1))) (hm X (ym A P st mk pa ce wd us (nI n) si))) (k : ∀ v j, v < n → x = nI v → j ≤ 6 → y = nI j → Q (some (am_I (P v j))) (hm X (ym A P st mk pa ce wd us (nI n) si))) (k7 : ∀ v, v < n → x = nI v → y = 7 → Q (some (am_I (if q_lv n mk st P v = 0 then 0 else 1))) (hm X (ym A P st mk pa ce wd us (nI n) si))) : am_C g mM_value (d + 1) 0 0 [am_O 20 0, am_I x, am_I y] (hm X (ym A P st mk pa ce wd us (nI n) si)) Q := by
  refine am_enter (lv := [some (am_O 20 0), some (am_I x), some (am_I y)]) rfl rfl (am_cat1 rfl) (Nat.le_of_ble_eq_true rfl) ?_
  refine am_aload_n (i := 0) dM_value_0 rfl rfl ?_
  refine am_iload_n (i := 1) dM_value_1 rfl rfl ?_
  refine am_callV (ac' := 0) (as' := 0) (xs := [_]) dM_value_2 lkM_69 (by first | rfl | exact sk8 (by omega) | exact sk9 (by omega) | exact sk10 (by omega) | exact sk11 (by omega)) rfl rfl rfl rfl (Nat.le_of_ble_eq_true rfl) rfl rfl (cM_no hn (fun nv => ?_) (fun v hv ev => ?_))
  · refine am_if_ne_T (tgt := 19) dM_value_5 (by decide) (by decide) ?_
    refine am_iconst (v := (-1)) dM_value_19 (by decide) ?_
    refine am_iret (st := []) rfl rfl dM_value_20 ?_
    exact kr (by grind)
  · refine am_if_ne_F (tgt := 19) dM_value_5 (by decide) (by decide) ?_
    refine am_aload_n (i := 0) dM_value_8 rfl rfl ?_
    refine am_iload_n (i := 2) dM_value_9 rfl rfl ?_
    refine am_iconst (v := 0) dM_value_10 (by decide) ?_
    refine am_bipush (v := 7) dM_value_11 (by decide) ?_
    refine am_callV (ac' := 0) (as' := 0) (xs := [_, _, _]) dM_value_13 lkM_61 (by first | rfl | exact sk8 (by omega) | exact sk9 (by omega) | exact sk10 (by omega) | exact sk11 (by omega)) rfl rfl rfl rfl (Nat.le_of_ble_eq_true rfl) rfl rfl (cM_off (fun o13 => ?_) (fun o13 => ?_))
    · refine am_if_eq_F (tgt := 21) dM_value_16 (by decide) (by decide) ?_
      refine am_iconst (v := (-1)) dM_value_19 (by decide) ?_
      refine am_iret (st := []) rfl rfl dM_value_20 ?_
      exact ko v hv ev (q_off7 o13)
    · refine am_if_eq_T (tgt := 21) dM_value_16 (by decide) (by decide) ?_
      refine am_iload_n (i := 2) dM_value_21 rfl rfl ?_
      rcases sw_0_6 (y) with s22 | s22 | s22 | s22 | s22 | s22 | s22 | s22
      · refine am_tableIn (off := 42) (tgt := 64) dM_value_22 (by rw [s22]; decide) (by rw [s22]; decide) (by rw [s22]; rfl) (by decide) ?_
        refine am_aload_n (i := 0) dM_value_64 rfl rfl ?_
        refine am_getf dM_value_65 flM_7 (by first | rfl | exact sk8 (by omega) | exact sk9 (by omega) | exact sk10 (by omega) | exact sk11 (by omega)) rfl ?_
        refine am_iload_n (i := 1) dM_value_68 rfl rfl ?_
        refine am_iald dM_value_69 (by first | rfl | exact sk8 (by omega) | exact sk9 (by omega) | exact sk10 (by omega) | exact sk11 (by omega)) ev (by first | omega | assumption | decide) (by decide) (by decide) (by first | exact congrArg am_I (mkd_lo (by omega)) | exact congrArg am_I (mkd_hi (by omega)) | rfl) ?_
        refine am_iret (st := []) rfl rfl dM_value_70 ?_
        exact k v 0 hv ev (by omega) s22
      · refine am_tableIn (off := 49) (tgt := 71) dM_value_22 (by rw [s22]; decide) (by rw [s22]; decide) (by rw [s22]; rfl) (by decide) ?_
        refine am_aload_n (i := 0) dM_value_71 rfl rfl ?_
        refine am_getf dM_value_72 flM_25 (by first | rfl | exact sk8 (by omega) | exact sk9 (by omega) | exact sk10 (by omega) | exact sk11 (by omega)) rfl ?_
        refine am_iload_n (i := 1) dM_value_75 rfl rfl ?_
        refine am_iald dM_value_76 (by first | rfl | exact sk8 (by omega) | exact sk9 (by omega) | exact sk10 (by omega) | exact sk11 (by omega)) ev (by first | omega | assumption | decide) (by decide) (by decide) (by first | exact congrArg am_I (mkd_lo (by omega)) | exact congrArg am_I (mkd_hi (by omega)) | rfl) ?_
        refine am_iret (st := []) rfl rfl dM_value_77 ?_
        exact k v 1 hv ev (by omega) s22
      · refine am_tableIn (off := 56) (tgt := 78) dM_value_22 (by rw [s22]; decide) (by rw [s22]; decide) (by rw [s22]; rfl) (by decide) ?_
        refine am_aload_n (i := 0) dM_value_78 rfl rfl ?_
        refine am_getf dM_value_79 flM_28 (by first | rfl | exact sk8 (by omega) | exact sk9 (by omega) | exact sk10 (by omega) | exact sk11 (by omega)) rfl ?_
        refine am_iload_n (i := 1) dM_value_82 rfl rfl ?_
        refine am_iald dM_value_83 (by first | rfl | exact sk8 (by omega) | exact sk9 (by omega) | exact sk10 (by omega) | exact sk11 (by omega)) ev (by first | omega | assumption | decide) (by decide) (by decide) (by first | exact congrArg am_I (mkd_lo (by omega)) | exact congrArg am_I (mkd_hi (by omega)) | rfl) ?_
        refine am_iret (st := []) rfl rfl dM_value_84 ?_
        exact k v 2 hv ev (by omega) s22
      · refine am_tableIn (off := 63) (tgt := 85) dM_value_22 (by rw [s22]; decide) (by rw [s22]; decide) (by rw [s22]; rfl) (by decide) ?_
        refine am_aload_n (i := 0) dM_value_85 rfl rfl ?_
        refine am_getf dM_value_86 flM_13 (by first | rfl | exact sk8 (by omega) | exact sk9 (by omega) | exact sk10 (by omega) | exact sk11 (by omega)) rfl ?_
        refine am_iload_n (i := 1) dM_value_89 rfl rfl ?_
        refine am_iald dM_value_90 (by first | rfl | exact sk8 (by omega) | exact sk9 (by omega) | exact sk10 (by omega) | exact sk11 (by omega)) ev (by first | omega | assumption | decide) (by decide) (by decide) (by first | exact congrArg am_I (mkd_lo (by omega)) | exact congrArg am_I (mkd_hi (by omega)) | rfl) ?_
        refine am_iret (st := []) rfl rfl dM_value_91 ?_
        exact k v 3 hv ev (by omega) s22
      · refine am_tableIn (off := 70) (tgt := 92) dM_value_22 (by rw [s22]; decide) (by rw [s22]; decide) (by rw [s22]; rfl) (by decide) ?_
        refine am_aload_n (i := 0) dM_value_92 rfl rfl ?_
        refine am_getf dM_value_93 flM_16 (by first | rfl | exact sk8 (by omega) | exact sk9 (by omega) | exact sk10 (by omega) | exact sk11 (by omega)) rfl ?_
        refine am_iload_n (i := 1) dM_value_96 rfl rfl ?_
        refine am_iald dM_value_97 (by first | rfl | exact sk8 (by omega) | exact sk9 (by omega) | exact sk10 (by omega) | exact sk11 (by omega)) ev (by first | omega | assumption | decide) (by decide) (by decide) (by first | exact congrArg am_I (mkd_lo (by omega)) | exact congrArg am_I (mkd_hi (by omega)) | rfl) ?_
        refine am_iret (st := []) rfl rfl dM_value_98 ?_
        exact k v 4 hv ev (by omega) s22
      · refine am_tableIn (off := 77) (tgt := 99) dM_value_22 (by rw [s22]; decide) (by rw [s22]; decide) (by rw [s22]; rfl) (by decide) ?_
        refine am_aload_n (i := 0) dM_value_99 rfl rfl ?_
        refine am_getf dM_value_100 flM_19 (by first | rfl | exact sk8 (by omega) | exact sk9 (by omega) | exact sk10 (by omega) | exact sk11 (by omega)) rfl ?_
        refine am_iload_n (i := 1) dM_value_103 rfl rfl ?_
        refine am_iald dM_value_104 (by first | rfl | exact sk8 (by omega) | exact sk9 (by omega) | exact sk10 (by omega) | exact sk11 (by omega)) ev (by first | omega | assumption | decide) (by decide) (by decide) (by first | exact congrArg am_I (mkd_lo (by omega)) | exact congrArg am_I (mkd_hi (by omega)) | rfl) ?_
        refine am_iret (st := []) rfl rfl dM_value_105 ?_
        exact k v 5 hv ev (by omega) s22
      · refine am_tableIn (off := 84) (tgt := 106) dM_value_22 (by rw [s22]; decide) (by rw [s22]; decide) (by rw [s22]; rfl) (by decide) ?_
        refine am_aload_n (i := 0) dM_value_106 rfl rfl ?_
        refine am_getf dM_value_107 flM_22 (by first | rfl | exact sk8 (by omega) | exact sk9 (by omega) | exact sk10 (by omega) | exact sk11 (by omega)) rfl ?_
        refine am_iload_n (i := 1) dM_value_110 rfl rfl ?_
        refine am_iald dM_value_111 (by first | rfl | exact sk8 (by omega) | exact sk9 (by omega) | exact sk10 (by omega) | exact sk11 (by omega)) ev (by first | omega | assumption | decide) (by decide) (by decide) (by first | exact congrArg am_I (mkd_lo (by omega)) | exact congrArg am_I (mkd_hi (by omega)) | rfl) ?_
        refine am_iret (st := []) rfl rfl dM_value_112 ?_
        exact k v 6 hv ev (by omega) s22
      · refine am_tableOut (tgt := 113) dM_value_22 s22 (by decide) ?_
        refine am_aload_n (i := 0) dM_value_113 rfl rfl ?_
        refine am_iload_n (i := 1) dM_value_114 rfl rfl ?_
        refine am_sT (st' := am_I (nI v) :: _) (by rw [ev]) ?_
        refine am_callV (ac' := 0) (as' := 0) (xs := [_]) dM_value_115 lkM_108 (by first | rfl | exact sk8 (by omega) | exact sk9 (by omega) | exact sk10 (by omega) | exact sk11 (by omega)) rfl rfl rfl rfl (Nat.le_of_ble_eq_true rfl) rfl rfl (cM_isLive hn hs hP hv (fun cl => ?_) (fun cl => ?_))
        · refine am_if_eq_F (tgt := 125) dM_value_118 (by decide) (by decide) ?_
          refine am_iconst (v := 1) dM_value_121 (by decide) ?_
          refine am_goto (tgt := 126) dM_value_122 (by decide) ?_
          refine am_iret (st := []) rfl rfl dM_value_126 ?_
          have := k7 v hv ev (q_on7 o13 s22)
          rw [if_neg cl] at this
          exact this
        · refine am_if_eq_T (tgt := 125) dM_value_118 (by decide) (by decide) ?_
          refine am_iconst (v := 0) dM_value_125 (by decide) ?_
          refine am_iret (st := []) rfl rfl dM_value_126 ?_
          have := k7 v hv ev (q_on7 o13 s22)
          rw [if_pos cl] at this
          exact this
set_option maxRecDepth 100000 in
set_option maxHeartbeats 4000000 in
theorem lpM_count7 {g : am_G} {d : Nat} {Q : Option am_V → am_H → Prop} {X : Nat → Nat → Nat → am_V} {A P : Nat → Nat → Int32} {st mk pa ce wd us : Nat → Int32} {si : Int32} {n : Nat} {x : Int32} (hn : n ≤ 28) (hs : ∀ m, m < n → ∃ j, j < n ∧ st m = nI j) (hP : ∀ u, u < n → q_ok P u) (hx : x = 7) (K : Q (some (am_I (nI (q_cnt (q_lv n mk st P) n)))) (hm X (ym A P st mk pa ce wd us (nI n) si))) : ∀ (j i : Nat), i + j = n → am_T g mM_count (d + 1) 0 0 64 [some (am_O 20 0), some (am_I x), some (am_I (nI (q_cnt (q_lv n mk st P) i))), some (am_I (nI i))] [] (hm X (ym A P st mk pa ce wd us (nI n) si)) Q := by
  have hP2 : ∀ m, m < n → q_arg (P m 3) m ∧ q_arg (P m 4) m := fun m hm => ⟨(hP m hm).1.1, (hP m hm).1.2.1⟩
  intro j
  induction j with
  | zero =>
    intro i hi
    refine am_iload_n (i := 3) dM_count_64 rfl rfl ?_
    refine am_aload_n (i := 0) dM_count_65 rfl rfl ?_
    refine am_getf dM_count_66 flM_50 (by first | rfl | exact sk8 (by omega) | exact sk9 (by omega) | exact sk10 (by omega) | exact sk11 (by omega)) rfl ?_
    refine am_icmp_ge_T (tgt := 104) dM_count_69 (by decide) ((nI_le' (by omega) (by omega)).mpr (by omega)) ?_
    refine am_iload_n (i := 2) dM_count_104 rfl rfl ?_
    refine am_iret (st := []) rfl rfl dM_count_105 ?_
    have e : i = n := by omega
    subst e
    exact K
  | succ j ih =>
    intro i hi
    refine am_iload_n (i := 3) dM_count_64 rfl rfl ?_
    refine am_aload_n (i := 0) dM_count_65 rfl rfl ?_
    refine am_getf dM_count_66 flM_50 (by first | rfl | exact sk8 (by omega) | exact sk9 (by omega) | exact sk10 (by omega) | exact sk11 (by omega)) rfl ?_
    refine am_icmp_ge_F (tgt := 104) dM_count_69 (by decide) (fun q => absurd ((nI_le' (by omega) (by omega)).mp q) (by omega)) ?_
    refine am_aload_n (i := 0) dM_count_72 rfl rfl ?_
    refine am_iload_n (i := 3) dM_count_73 rfl rfl ?_
    refine am_callV (ac' := 0) (as' := 0) (xs := [_]) dM_count_74 lkM_108 (by first | rfl | exact sk8 (by omega) | exact sk9 (by omega) | exact sk10 (by omega) | exact sk11 (by omega)) rfl rfl rfl rfl (Nat.le_of_ble_eq_true rfl) rfl rfl (cM_isLive hn hs hP2 (by omega) (fun cl => ?_) (fun cl => ?_))
    · refine am_if_eq_F (tgt := 98) dM_count_77 (by decide) (by decide) ?_
      refine am_iload_n (i := 2) dM_count_80 rfl rfl ?_
      refine am_iload_n (i := 1) dM_count_81 rfl rfl ?_
      refine am_bipush (v := 7) dM_count_82 (by decide) ?_
      refine am_icmp_ne_F (tgt := 91) dM_count_84 (by decide) hx ?_
      refine am_iconst (v := 1) dM_count_87 (by decide) ?_
      refine am_goto (tgt := 96) dM_count_88 (by decide) ?_
      refine am_iadd dM_count_96 ?_
      refine am_istore_n (i := 2) dM_count_97 rfl (by decide) ?_
      refine am_iinc dM_count_98 rfl (by first | exact nI_1 _ | exact pk_m1 _ | rfl) (by decide) ?_
      refine am_goto (tgt := 64) dM_count_101 (by decide) ?_
      refine am_lT (lv' := [some (am_O 20 0), some (am_I x), some (am_I (nI (q_cnt (q_lv n mk st P) (i + 1)))), some (am_I (nI (i + 1)))]) ?_ (ih (i + 1) (by omega))
      have ei : nI (q_cnt (q_lv n mk st P) (i + 1)) = nI (if (q_lv n mk st P) i = 0 then q_cnt (q_lv n mk st P) i else q_cnt (q_lv n mk st P) i + 1) := rfl
      rw [ei]
      rw [if_neg cl]
      rw [← nI_1 (q_cnt (q_lv n mk st P) i)]
      rfl
    · refine am_if_eq_T (tgt := 98) dM_count_77 (by decide) (by decide) ?_
      refine am_iinc dM_count_98 rfl (by first | exact nI_1 _ | exact pk_m1 _ | rfl) (by decide) ?_
      refine am_goto (tgt := 64) dM_count_101 (by decide) ?_
      refine am_lT (lv' := [some (am_O 20 0), some (am_I x), some (am_I (nI (q_cnt (q_lv n mk st P) (i + 1)))), some (am_I (nI (i + 1)))]) ?_ (ih (i + 1) (by omega))
      have ei : nI (q_cnt (q_lv n mk st P) (i + 1)) = nI (if (q_lv n mk st P) i = 0 then q_cnt (q_lv n mk st P) i else q_cnt (q_lv n mk st P) i + 1) := rfl
      rw [ei]
      rw [if_pos cl]
      rfl
set_option maxRecDepth 100000 in
set_option maxHeartbeats 4000000 in
theorem lpM_count8 {g : am_G} {d : Nat} {Q : Option am_V → am_H → Prop} {X : Nat → Nat → Nat → am_V} {A P : Nat → Nat → Int32} {st mk pa ce wd us : Nat → Int32} {si : Int32} {n : Nat} {x : Int32} (hn : n ≤ 28) (hs : ∀ m, m < n → ∃ j, j < n ∧ st m = nI j) (hP : ∀ u, u < n → q_ok P u) (hx : x = 8) (K : Q (some (am_I (q_wsum P (q_lv n mk st P) n))) (hm X (ym A P st mk pa ce wd us (nI n) si))) : ∀ (j i : Nat), i + j = n → am_T g mM_count (d + 1) 0 0 64 [some (am_O 20 0), some (am_I x), some (am_I (q_wsum P (q_lv n mk st P) i)), some (am_I (nI i))] [] (hm X (ym A P st mk pa ce wd us (nI n) si)) Q := by
  have hP2 : ∀ m, m < n → q_arg (P m 3) m ∧ q_arg (P m 4) m := fun m hm => ⟨(hP m hm).1.1, (hP m hm).1.2.1⟩
  intro j
  induction j with
  | zero =>
    intro i hi
    refine am_iload_n (i := 3) dM_count_64 rfl rfl ?_
    refine am_aload_n (i := 0) dM_count_65 rfl rfl ?_
    refine am_getf dM_count_66 flM_50 (by first | rfl | exact sk8 (by omega) | exact sk9 (by omega) | exact sk10 (by omega) | exact sk11 (by omega)) rfl ?_
    refine am_icmp_ge_T (tgt := 104) dM_count_69 (by decide) ((nI_le' (by omega) (by omega)).mpr (by omega)) ?_
    refine am_iload_n (i := 2) dM_count_104 rfl rfl ?_
    refine am_iret (st := []) rfl rfl dM_count_105 ?_
    have e : i = n := by omega
    subst e
    exact K
  | succ j ih =>
    intro i hi
    refine am_iload_n (i := 3) dM_count_64 rfl rfl ?_
    refine am_aload_n (i := 0) dM_count_65 rfl rfl ?_
    refine am_getf dM_count_66 flM_50 (by first | rfl | exact sk8 (by omega) | exact sk9 (by omega) | exact sk10 (by omega) | exact sk11 (by omega)) rfl ?_
    refine am_icmp_ge_F (tgt := 104) dM_count_69 (by decide) (fun q => absurd ((nI_le' (by omega) (by omega)).mp q) (by omega)) ?_
    refine am_aload_n (i := 0) dM_count_72 rfl rfl ?_
    refine am_iload_n (i := 3) dM_count_73 rfl rfl ?_
    refine am_callV (ac' := 0) (as' := 0) (xs := [_]) dM_count_74 lkM_108 (by first | rfl | exact sk8 (by omega) | exact sk9 (by omega) | exact sk10 (by omega) | exact sk11 (by omega)) rfl rfl rfl rfl (Nat.le_of_ble_eq_true rfl) rfl rfl (cM_isLive hn hs hP2 (by omega) (fun cl => ?_) (fun cl => ?_))
    · refine am_if_eq_F (tgt := 98) dM_count_77 (by decide) (by decide) ?_
      refine am_iload_n (i := 2) dM_count_80 rfl rfl ?_
      refine am_iload_n (i := 1) dM_count_81 rfl rfl ?_
      refine am_bipush (v := 7) dM_count_82 (by decide) ?_
      refine am_icmp_ne_T (tgt := 91) dM_count_84 (by decide) (by rw [hx]; decide) ?_
      refine am_aload_n (i := 0) dM_count_91 rfl rfl ?_
      refine am_iload_n (i := 3) dM_count_92 rfl rfl ?_
      refine am_callV (ac' := 0) (as' := 0) (xs := [_]) dM_count_93 lkM_111 (by first | rfl | exact sk8 (by omega) | exact sk9 (by omega) | exact sk10 (by omega) | exact sk11 (by omega)) rfl rfl rfl rfl (Nat.le_of_ble_eq_true rfl) rfl rfl (cM_workOf (by omega) (hP i (by omega)).1.1 (hP i (by omega)).1.2.2.1 (fun r er => ?_))
      refine am_iadd dM_count_96 ?_
      refine am_istore_n (i := 2) dM_count_97 rfl (by decide) ?_
      refine am_iinc dM_count_98 rfl (by first | exact nI_1 _ | exact pk_m1 _ | rfl) (by decide) ?_
      refine am_goto (tgt := 64) dM_count_101 (by decide) ?_
      refine am_lT (lv' := [some (am_O 20 0), some (am_I x), some (am_I (q_wsum P (q_lv n mk st P) (i + 1))), some (am_I (nI (i + 1)))]) ?_ (ih (i + 1) (by omega))
      have ei : q_wsum P (q_lv n mk st P) (i + 1) = (if (q_lv n mk st P) i = 0 then q_wsum P (q_lv n mk st P) i else q_wsum P (q_lv n mk st P) i + q_work P i) := rfl
      rw [ei]
      rw [if_neg cl]
      rw [← er]
      rfl
    · refine am_if_eq_T (tgt := 98) dM_count_77 (by decide) (by decide) ?_
      refine am_iinc dM_count_98 rfl (by first | exact nI_1 _ | exact pk_m1 _ | rfl) (by decide) ?_
      refine am_goto (tgt := 64) dM_count_101 (by decide) ?_
      refine am_lT (lv' := [some (am_O 20 0), some (am_I x), some (am_I (q_wsum P (q_lv n mk st P) (i + 1))), some (am_I (nI (i + 1)))]) ?_ (ih (i + 1) (by omega))
      have ei : q_wsum P (q_lv n mk st P) (i + 1) = (if (q_lv n mk st P) i = 0 then q_wsum P (q_lv n mk st P) i else q_wsum P (q_lv n mk st P) i + q_work P i) := rfl
      rw [ei]
      rw [if_pos cl]
      rfl
theorem q_cout {x : Int32} (h16 : x < 1 ∨ 6 < x) (h0 : ¬ x = 0) (h7 : ¬ x = 7) (h8 : ¬ x = 8) (h9 : ¬ x = 9) : x.toInt < 0 ∨ 9 < x.toInt := by
  have a : x.toInt < 1 ∨ 6 < x.toInt := by
    rcases h16 with q | q
    · exact Or.inl (Int32.lt_iff_toInt_lt.mp q)
    · exact Or.inr (Int32.lt_iff_toInt_lt.mp q)
  have e : ∀ j : Int32, ¬ x = j → ¬ x.toInt = j.toInt := fun j h q => h (Int32.toInt_inj.mp q)
  have e0 := e 0 h0
  have e7 := e 7 h7
  have e8 := e 8 h8
  have e9 := e 9 h9
  have f0 : (0 : Int32).toInt = 0 := by decide
  have f7 : (7 : Int32).toInt = 7 := by decide
  have f8 : (8 : Int32).toInt = 8 := by decide
  have f9 : (9 : Int32).toInt = 9 := by decide
  omega
set_option maxRecDepth 100000 in
set_option maxHeartbeats 4000000 in
theorem cM_count {g : am_G} {d : Nat} {Q : Option am_V → am_H → Prop} {X : Nat → Nat → Nat → am_V} {A P : Nat → Nat → Int32} {st mk pa ce wd us : Nat → Int32} {si : Int32} {n : Nat} {x : Int32} (hn : n ≤ 28) (hs : ∀ m, m < n → ∃ j, j < n ∧ st m = nI j) (hP : ∀ u, u < n → q_ok P u) (ku : ∀ j, 1 ≤ j → j ≤ 6 → x = nI j → Q (some (am_I (us j))) (hm X (ym A P st mk pa ce wd us (nI n) si))) (k0 : x = 0 → Q (some (am_I (nI n))) (hm X (ym A P st mk pa ce wd us (nI n) si))) (k7 : x = 7 → Q (some (am_I (nI (q_cnt (q_lv n mk st P) n)))) (hm X (ym A P st mk pa ce wd us (nI n) si))) (k8 : x = 8 → Q (some (am_I (q_wsum P (q_lv n mk st P) n))) (hm X (ym A P st mk pa ce wd us (nI n) si))) (k9 : x = 9 → Q (some (am_I (if si = 0 then 0 else 1))) (hm X (ym A P st mk pa ce wd us (nI n) si))) (kr : (x.toInt < 0 ∨ 9 < x.toInt) → Q (some (am_I (-1))) (hm X (ym A P st mk pa ce wd us (nI n) si))) : am_C g mM_count (d + 1) 0 0 [am_O 20 0, am_I x] (hm X (ym A P st mk pa ce wd us (nI n) si)) Q := by
  refine am_enter (lv := [some (am_O 20 0), some (am_I x), none, none]) rfl rfl (am_cat1 rfl) (Nat.le_of_ble_eq_true rfl) ?_
  refine am_iload_n (i := 1) dM_count_0 rfl rfl ?_
  refine am_iconst (v := 1) dM_count_1 (by decide) ?_
  refine am_icmp_lt (tgt := 18) dM_count_2 (by decide) (fun c2 => ?_) (fun c2 => ?_)
  · refine am_iload_n (i := 1) dM_count_18 rfl rfl ?_
    refine am_if_ne (tgt := 27) dM_count_19 (by decide) (fun c19 => ?_) (fun c19 => ?_)
    · refine am_iload_n (i := 1) dM_count_27 rfl rfl ?_
      refine am_bipush (v := 9) dM_count_28 (by decide) ?_
      refine am_icmp_ne (tgt := 46) dM_count_30 (by decide) (fun c30 => ?_) (fun c30 => ?_)
      · refine am_iload_n (i := 1) dM_count_46 rfl rfl ?_
        refine am_bipush (v := 7) dM_count_47 (by decide) ?_
        refine am_icmp_eq (tgt := 60) dM_count_49 (by decide) (fun c49 => ?_) (fun c49 => ?_)
        · refine am_iconst (v := 0) dM_count_60 (by decide) ?_
          refine am_istore_n (i := 2) dM_count_61 rfl (by decide) ?_
          refine am_iconst (v := 0) dM_count_62 (by decide) ?_
          refine am_istore_n (i := 3) dM_count_63 rfl (by decide) ?_
          exact lpM_count7 hn hs hP c49 (k7 c49) n 0 (by omega)
        · refine am_iload_n (i := 1) dM_count_52 rfl rfl ?_
          refine am_bipush (v := 8) dM_count_53 (by decide) ?_
          refine am_icmp_eq (tgt := 60) dM_count_55 (by decide) (fun c55 => ?_) (fun c55 => ?_)
          · refine am_iconst (v := 0) dM_count_60 (by decide) ?_
            refine am_istore_n (i := 2) dM_count_61 rfl (by decide) ?_
            refine am_iconst (v := 0) dM_count_62 (by decide) ?_
            refine am_istore_n (i := 3) dM_count_63 rfl (by decide) ?_
            exact lpM_count8 hn hs hP c55 (k8 c55) n 0 (by omega)
          · refine am_iconst (v := (-1)) dM_count_58 (by decide) ?_
            refine am_iret (st := []) rfl rfl dM_count_59 ?_
            exact kr (q_cout (by first | exact Or.inl c2 | exact Or.inr c8) c19 c49 c55 c30)
      · refine am_aload_n (i := 0) dM_count_33 rfl rfl ?_
        refine am_getf dM_count_34 flM_54 (by first | rfl | exact sk8 (by omega) | exact sk9 (by omega) | exact sk10 (by omega) | exact sk11 (by omega)) rfl ?_
        refine am_if_eq (tgt := 44) dM_count_37 (by decide) (fun c37 => ?_) (fun c37 => ?_)
        · refine am_iconst (v := 0) dM_count_44 (by decide) ?_
          refine am_iret (st := []) rfl rfl dM_count_45 ?_
          have := k9 c30
          rw [if_pos c37] at this
          exact this
        · refine am_iconst (v := 1) dM_count_40 (by decide) ?_
          refine am_goto (tgt := 45) dM_count_41 (by decide) ?_
          refine am_iret (st := []) rfl rfl dM_count_45 ?_
          have := k9 c30
          rw [if_neg c37] at this
          exact this
    · refine am_aload_n (i := 0) dM_count_22 rfl rfl ?_
      refine am_getf dM_count_23 flM_50 (by first | rfl | exact sk8 (by omega) | exact sk9 (by omega) | exact sk10 (by omega) | exact sk11 (by omega)) rfl ?_
      refine am_iret (st := []) rfl rfl dM_count_26 ?_
      exact k0 c19
  · refine am_iload_n (i := 1) dM_count_5 rfl rfl ?_
    refine am_bipush (v := 6) dM_count_6 (by decide) ?_
    refine am_icmp_gt (tgt := 18) dM_count_8 (by decide) (fun c8 => ?_) (fun c8 => ?_)
    · refine am_iload_n (i := 1) dM_count_18 rfl rfl ?_
      refine am_if_ne (tgt := 27) dM_count_19 (by decide) (fun c19 => ?_) (fun c19 => ?_)
      · refine am_iload_n (i := 1) dM_count_27 rfl rfl ?_
        refine am_bipush (v := 9) dM_count_28 (by decide) ?_
        refine am_icmp_ne (tgt := 46) dM_count_30 (by decide) (fun c30 => ?_) (fun c30 => ?_)
        · refine am_iload_n (i := 1) dM_count_46 rfl rfl ?_
          refine am_bipush (v := 7) dM_count_47 (by decide) ?_
          refine am_icmp_eq (tgt := 60) dM_count_49 (by decide) (fun c49 => ?_) (fun c49 => ?_)
          · refine am_iconst (v := 0) dM_count_60 (by decide) ?_
            refine am_istore_n (i := 2) dM_count_61 rfl (by decide) ?_
            refine am_iconst (v := 0) dM_count_62 (by decide) ?_
            refine am_istore_n (i := 3) dM_count_63 rfl (by decide) ?_
            exact lpM_count7 hn hs hP c49 (k7 c49) n 0 (by omega)
          · refine am_iload_n (i := 1) dM_count_52 rfl rfl ?_
            refine am_bipush (v := 8) dM_count_53 (by decide) ?_
            refine am_icmp_eq (tgt := 60) dM_count_55 (by decide) (fun c55 => ?_) (fun c55 => ?_)
            · refine am_iconst (v := 0) dM_count_60 (by decide) ?_
              refine am_istore_n (i := 2) dM_count_61 rfl (by decide) ?_
              refine am_iconst (v := 0) dM_count_62 (by decide) ?_
              refine am_istore_n (i := 3) dM_count_63 rfl (by decide) ?_
              exact lpM_count8 hn hs hP c55 (k8 c55) n 0 (by omega)
            · refine am_iconst (v := (-1)) dM_count_58 (by decide) ?_
              refine am_iret (st := []) rfl rfl dM_count_59 ?_
              exact kr (q_cout (by first | exact Or.inl c2 | exact Or.inr c8) c19 c49 c55 c30)
        · refine am_aload_n (i := 0) dM_count_33 rfl rfl ?_
          refine am_getf dM_count_34 flM_54 (by first | rfl | exact sk8 (by omega) | exact sk9 (by omega) | exact sk10 (by omega) | exact sk11 (by omega)) rfl ?_
          refine am_if_eq (tgt := 44) dM_count_37 (by decide) (fun c37 => ?_) (fun c37 => ?_)
          · refine am_iconst (v := 0) dM_count_44 (by decide) ?_
            refine am_iret (st := []) rfl rfl dM_count_45 ?_
            have := k9 c30
            rw [if_pos c37] at this
            exact this
          · refine am_iconst (v := 1) dM_count_40 (by decide) ?_
            refine am_goto (tgt := 45) dM_count_41 (by decide) ?_
            refine am_iret (st := []) rfl rfl dM_count_45 ?_
            have := k9 c30
            rw [if_neg c37] at this
            exact this
      · refine am_aload_n (i := 0) dM_count_22 rfl rfl ?_
        refine am_getf dM_count_23 flM_50 (by first | rfl | exact sk8 (by omega) | exact sk9 (by omega) | exact sk10 (by omega) | exact sk11 (by omega)) rfl ?_
        refine am_iret (st := []) rfl rfl dM_count_26 ?_
        exact k0 c19
    · obtain ⟨j, hj1, hj2, ej⟩ := q_ix16 c2 c8
      refine am_aload_n (i := 0) dM_count_11 rfl rfl ?_
      refine am_getf dM_count_12 flM_47 (by first | rfl | exact sk8 (by omega) | exact sk9 (by omega) | exact sk10 (by omega) | exact sk11 (by omega)) rfl ?_
      refine am_iload_n (i := 1) dM_count_15 rfl rfl ?_
      refine am_iald dM_count_16 (by first | rfl | exact sk8 (by omega) | exact sk9 (by omega) | exact sk10 (by omega) | exact sk11 (by omega)) ej (by first | omega | assumption | decide) (by decide) (by decide) (by first | exact congrArg am_I (mkd_lo (by omega)) | exact congrArg am_I (mkd_hi (by omega)) | rfl) ?_
      refine am_iret (st := []) rfl rfl dM_count_17 ?_
      exact ku j hj1 hj2 ej
