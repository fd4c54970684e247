/-! ===== the law: its loop, and the whole ===== -/
theorem lw_cmp {L k : Nat} (hL : L < 2 ^ 31) (hk : 6 * k ≤ L) (h : ¬ nI L - 6 < nI (6 * k)) : 6 * k + 6 ≤ L := by
  rcases Nat.lt_or_ge L 6 with q | q
  · have e : k = 0 := by omega
    subst e
    exfalso
    apply h
    obtain rfl | rfl | rfl | rfl | rfl | rfl : L = 0 ∨ L = 1 ∨ L = 2 ∨ L = 3 ∨ L = 4 ∨ L = 5 := by omega
    all_goals decide
  · obtain ⟨j, rfl⟩ : ∃ j, L = j + 6 := ⟨L - 6, by omega⟩
    have e : nI (j + 6) - 6 = nI j := by
      rw [← nI_add j 6]
      show nI j + 6 - 6 = nI j
      exact Int32.add_sub_cancel _ _
    rw [e, nI_ltI (by omega) (by omega)] at h
    omega
set_option maxRecDepth 100000 in
set_option maxHeartbeats 4000000 in
theorem lpL {g : am_G} {Q : Option am_V → am_H → Prop} {L0 : Nat} (hS : lw_S g L0) (kQ : ∀ h, Q (some (am_I 1)) h) : ∀ (m k : Nat), L0 ≤ 6 * k + m → 6 * k ≤ L0 → ∀ h, lw_H h → am_T g mL_law 5 0 0 18 [some (am_O 100 0), some (am_O 0 0), some (am_O 20 0), some (am_I (nI (6 * k)))] [] h Q := by
  intro m
  induction m with
  | zero =>
    intro k hm hk h hh
    refine am_iload_n (i := 3) dL_law_18 rfl rfl ?_
    refine am_aload_n (i := 0) dL_law_19 rfl rfl ?_
    refine am_slen dL_law_20 hS.1 ?_
    refine am_bipush (v := 6) dL_law_21 (by decide) ?_
    refine am_isub dL_law_23 ?_
    refine am_icmp_gt (tgt := 575) dL_law_24 (by decide) (fun c24 => ?_) (fun c24 => ?_)
    · refine am_iconst (v := 1) dL_law_575 (by decide) ?_
      refine am_iret (st := []) rfl rfl dL_law_576 ?_
      exact kQ _
    · have hk2 := lw_cmp hS.2.1 hk c24
      exfalso
      omega
  | succ m ih =>
    intro k hm hk h hh
    obtain ⟨n, A, P, st, mk, lv, cl, pr, us, si, wk, pa, ce, wd, hI, rfl⟩ := hh
    have KK : 6 * k + 6 ≤ L0 → ∀ h, lw_H h → am_T g mL_law 5 0 0 569 [some (am_O 100 0), some (am_O 0 0), some (am_O 20 0), some (am_I (nI (6 * k)))] [] h Q := fun hk2 h hh => by
      refine am_iinc dL_law_569 rfl (v := nI (6 * (k + 1))) (by rw [show 6 * (k + 1) = 6 * k + 6 from by omega]; exact nI_add (6 * k) 6) (by decide) ?_
      refine am_goto (tgt := 18) dL_law_572 (by decide) ?_
      exact ih (k + 1) (by omega) (by omega) h hh
    refine am_iload_n (i := 3) dL_law_18 rfl rfl ?_
    refine am_aload_n (i := 0) dL_law_19 rfl rfl ?_
    refine am_slen dL_law_20 hS.1 ?_
    refine am_bipush (v := 6) dL_law_21 (by decide) ?_
    refine am_isub dL_law_23 ?_
    refine am_icmp_gt (tgt := 575) dL_law_24 (by decide) (fun c24 => ?_) (fun c24 => ?_)
    · refine am_iconst (v := 1) dL_law_575 (by decide) ?_
      refine am_iret (st := []) rfl rfl dL_law_576 ?_
      exact kQ _
    · have hk2 := lw_cmp hS.2.1 hk c24
      obtain ⟨y0, f0⟩ := hS.2.2 (6 * k) (by omega)
      refine am_aload_n (i := 0) dL_law_27 rfl rfl ?_
      refine am_iload_n (i := 3) dL_law_28 rfl rfl ?_
      refine am_sld dL_law_29 hS.1 rfl (by omega) hS.2.1 f0 ?_
      refine am_bipush (v := 15) dL_law_30 (by decide) ?_
      refine am_iand dL_law_32 ?_
      rcases sw_0_11 (y0 &&& 15) with s33 | s33 | s33 | s33 | s33 | s33 | s33 | s33 | s33 | s33 | s33 | s33 | s33
      · refine am_tableIn (off := 63) (tgt := 96) dL_law_33 (by rw [s33]; decide) (by rw [s33]; decide) (by rw [s33]; rfl) (by decide) ?_
        exact lL_0 hS hk2 hI (KK hk2)
      · refine am_tableIn (off := 116) (tgt := 149) dL_law_33 (by rw [s33]; decide) (by rw [s33]; decide) (by rw [s33]; rfl) (by decide) ?_
        exact lL_1 hS hk2 hI (KK hk2)
      · refine am_tableIn (off := 169) (tgt := 202) dL_law_33 (by rw [s33]; decide) (by rw [s33]; decide) (by rw [s33]; rfl) (by decide) ?_
        exact lL_2 hS hk2 hI (KK hk2)
      · refine am_tableIn (off := 222) (tgt := 255) dL_law_33 (by rw [s33]; decide) (by rw [s33]; decide) (by rw [s33]; rfl) (by decide) ?_
        exact lL_3 hS hk2 hI (KK hk2)
      · refine am_tableIn (off := 285) (tgt := 318) dL_law_33 (by rw [s33]; decide) (by rw [s33]; decide) (by rw [s33]; rfl) (by decide) ?_
        exact lL_4 hS hk2 hI (KK hk2)
      · refine am_tableIn (off := 334) (tgt := 367) dL_law_33 (by rw [s33]; decide) (by rw [s33]; decide) (by rw [s33]; rfl) (by decide) ?_
        exact lL_5 hS hk2 hI (KK hk2)
      · refine am_tableIn (off := 387) (tgt := 420) dL_law_33 (by rw [s33]; decide) (by rw [s33]; decide) (by rw [s33]; rfl) (by decide) ?_
        exact lL_6 hS hk2 hI (KK hk2)
      · refine am_tableIn (off := 400) (tgt := 433) dL_law_33 (by rw [s33]; decide) (by rw [s33]; decide) (by rw [s33]; rfl) (by decide) ?_
        exact lL_7 hS hk2 hI (KK hk2)
      · refine am_tableIn (off := 413) (tgt := 446) dL_law_33 (by rw [s33]; decide) (by rw [s33]; decide) (by rw [s33]; rfl) (by decide) ?_
        exact lL_8 hS hk2 hI (KK hk2)
      · refine am_tableIn (off := 457) (tgt := 490) dL_law_33 (by rw [s33]; decide) (by rw [s33]; decide) (by rw [s33]; rfl) (by decide) ?_
        exact lL_9 hS hk2 hI (KK hk2)
      · refine am_tableIn (off := 480) (tgt := 513) dL_law_33 (by rw [s33]; decide) (by rw [s33]; decide) (by rw [s33]; rfl) (by decide) ?_
        exact lL_10 hS hk2 hI (KK hk2)
      · refine am_tableIn (off := 513) (tgt := 546) dL_law_33 (by rw [s33]; decide) (by rw [s33]; decide) (by rw [s33]; rfl) (by decide) ?_
        exact lL_11 hS hk2 hI (KK hk2)
      · refine am_tableOut (tgt := 569) dL_law_33 s33 (by decide) ?_
        exact KK hk2 _ ⟨n, A, P, st, mk, lv, cl, pr, us, si, wk, pa, ce, wd, hI, rfl⟩
theorem ty_C_sm : ∀ k : Nat, k < 11 → am_small (am_ty 1 k) := by
  intro k hk
  match k, hk with
  | 0, _ => exact fun _ => rfl
  | 1, _ => exact fun _ => rfl
  | 2, _ => exact fun _ => rfl
  | 3, _ => exact fun _ => rfl
  | 4, _ => exact fun _ => rfl
  | 5, _ => exact fun _ => rfl
  | 6, _ => exact fun _ => rfl
  | 7, _ => exact fun _ => rfl
  | 8, _ => exact fun _ => rfl
  | 9, _ => exact fun _ => rfl
  | 10, _ => exact fun _ => rfl
  | k + 11, hk => omega
theorem ty_M_sm : ∀ k : Nat, k < 15 → am_small (am_ty 2 k) := by
  intro k hk
  match k, hk with
  | 0, _ => exact fun _ => rfl
  | 1, _ => exact fun _ => rfl
  | 2, _ => exact fun _ => rfl
  | 3, _ => exact fun _ => rfl
  | 4, _ => exact fun _ => rfl
  | 5, _ => exact fun _ => rfl
  | 6, _ => exact fun _ => rfl
  | 7, _ => exact fun _ => rfl
  | 8, _ => exact fun _ => rfl
  | 9, _ => exact fun _ => rfl
  | 10, _ => exact fun _ => rfl
  | 11, _ => exact fun _ => rfl
  | 12, _ => exact fun _ => rfl
  | 13, _ => exact fun _ => rfl
  | 14, _ => exact fun _ => rfl
  | k + 15, hk => omega
set_option maxRecDepth 100000 in
set_option maxHeartbeats 4000000 in
theorem lw_law {g : am_G} {Q : Option am_V → am_H → Prop} {L0 : Nat} (hS : lw_S g L0) (kQ : ∀ h, Q (some (am_I 1)) h) : am_T g mL_law 5 111 2048 0 [some (am_O 100 0), none, none, none] [] (hz 0 (xi oC0 pN pN) (yi oM0)) Q := by
  refine am_new (ci := 1) (q := (nm_C, tf_C, 11)) (ac := 110) (as := 2037) 0 0 dL_law_0 rfl kcL_7 ki_C kn_C ty_C_sm (hz_none (by decide)) (by decide) rfl (am_hT (hz_nw rfl rfl rfl) ?_)
  refine am_dup dL_law_3 rfl ?_
  refine am_callI (mc' := 96) (ms' := 1083) (ac' := 14) (as' := 954) (xs := []) dL_law_4 lkL_9 rfl rfl (Nat.le_of_ble_eq_true rfl) rfl rfl (cC_init ?_)
  refine am_astore_n (i := 1) dL_law_7 rfl (by decide) ?_
  refine am_new (ci := 2) (q := (nm_M, tf_M, 15)) (ac := 13) (as := 939) 20 0 dL_law_8 rfl kcL_10 ki_M kn_M ty_M_sm (hz_none (by decide)) (by decide) rfl (am_hT (hz_nw rfl rfl rfl) ?_)
  refine am_dup dL_law_11 rfl ?_
  refine am_callI (mc' := 13) (ms' := 939) (ac' := 0) (as' := 0) (xs := []) dL_law_12 lkL_12 rfl rfl (Nat.le_of_ble_eq_true rfl) rfl rfl (cM_init (am_hT hz_all ?_))
  refine am_astore_n (i := 2) dL_law_15 rfl (by decide) ?_
  refine am_iconst (v := 0) dL_law_16 (by decide) ?_
  refine am_istore_n (i := 3) dL_law_17 rfl (by decide) ?_
  exact lpL hS kQ L0 0 (by omega) (by omega) _ ⟨0, _, _, _, _, _, _, _, _, _, _, _, _, _, q_I_0, rfl⟩
