/-! ===== the reference: restoring, adding ===== -/
def q_rsn (n : Nat) (A P : Nat → Nat → Int32) : Nat → Nat → Int32 := fun i k => if i < n ∧ (k = 0 ∨ k = 3 ∨ k = 4 ∨ k = 5 ∨ k = 6) then A i k else P i k
def q_wd0 (n : Nat) (wd : Nat → Int32) : Nat → Int32 := fun v => if v < n then 0 else wd v
def q_sha (n : Nat) (A P : Nat → Nat → Int32) : Prop := ∀ v, v < n → P v 1 = A v 1 ∧ P v 2 = A v 2
theorem q_eq28 {n : Nat} (hn : n ≤ 28) : nI n = 28 ↔ n = 28 := nI_eq (b := 28) (by omega) (by omega)
theorem q_rsn_s {i : Nat} {A P : Nat → Nat → Int32} : up2 (up2 (up2 (up2 (up2 (q_rsn i A P) i 0 (A i 0)) i 3 (A i 3)) i 4 (A i 4)) i 5 (A i 5)) i 6 (A i 6) = q_rsn (i + 1) A P := by
  funext u m
  by_cases hu : u = i
  · subst hu
    match m with
    | 0 => simp [up2, q_rsn]
    | 1 => simp [up2, q_rsn]
    | 2 => simp [up2, q_rsn]
    | 3 => simp [up2, q_rsn]
    | 4 => simp [up2, q_rsn]
    | 5 => simp [up2, q_rsn]
    | 6 => simp [up2, q_rsn]
    | m + 7 => simp [up2, q_rsn]
  · rw [up2_i hu, up2_i hu, up2_i hu, up2_i hu, up2_i hu]
    unfold q_rsn
    have e : (u < i + 1) ↔ (u < i) := by omega
    simp only [e]
theorem q_rsn_cpn {n : Nat} {A P : Nat → Nat → Int32} (h : q_sha n A P) : q_rsn n A P = q_cpn n A P := by
  funext i k
  unfold q_rsn q_cpn
  by_cases hi : i < n
  · have := h i hi
    match k with
    | 0 => simp
    | 1 => simp [hi, this.1]
    | 2 => simp [hi, this.2]
    | 3 => simp
    | 4 => simp
    | 5 => simp
    | 6 => simp
    | k + 7 => rw [if_neg (fun q => by omega), if_neg (fun q => by omega)]
  · rw [if_neg (fun q => hi q.1), if_neg (fun q => hi q.1)]
theorem q_new_o {A : Nat → Nat → Int32} {n i k : Nat} {κ a b p q x y : Int32} (h : i ≠ n) : q_new A n κ a b p q x y i k = A i k := by
  unfold q_new
  rw [up2_i h, up2_i h, q_bec_old h]
theorem q_new_1 {A : Nat → Nat → Int32} {n : Nat} {κ a b p q x y : Int32} : q_new A n κ a b p q x y n 1 = x := by
  unfold q_new
  rw [up2_k (by decide), up2_eq]
theorem q_new_2 {A : Nat → Nat → Int32} {n : Nat} {κ a b p q x y : Int32} : q_new A n κ a b p q x y n 2 = y := by
  unfold q_new
  rw [up2_eq]
theorem q_new_sha {n : Nat} {A P : Nat → Nat → Int32} {κ a b p q x y : Int32} (h : q_sha n A P) : q_sha (n + 1) (q_new A n κ a b p q x y) (up2 (up2 P n 1 x) n 2 y) := fun v hv => by
  by_cases e : v = n
  · subst e
    rw [q_new_1, q_new_2, up2_eq, up2_k (by decide), up2_eq]
    exact ⟨rfl, rfl⟩
  · rw [q_new_o e, q_new_o e, up2_i e, up2_i e, up2_i e, up2_i e]
    exact h v (by omega)
theorem q_cpn_up {n : Nat} {A P : Nat → Nat → Int32} {x y : Int32} : q_cpn (n + 1) A (up2 (up2 P n 1 x) n 2 y) = q_cpn (n + 1) A P := by
  funext i k
  unfold q_cpn
  by_cases h : i < n + 1 ∧ k < 7
  · rw [if_pos h, if_pos h]
  · rw [if_neg h, if_neg h]
    by_cases e : i = n
    · rw [up2_k (by omega), up2_k (by omega)]
    · rw [up2_i e, up2_i e]
theorem q_rsn_A {n m : Nat} {A P : Nat → Nat → Int32} {x y : Int32} : q_rsn n (up2 (up2 A m 1 x) m 2 y) P = q_rsn n A P := by
  funext i k
  unfold q_rsn
  by_cases h : i < n ∧ (k = 0 ∨ k = 3 ∨ k = 4 ∨ k = 5 ∨ k = 6)
  · rw [if_pos h, if_pos h, up2_k (by omega), up2_k (by omega)]
  · rw [if_neg h, if_neg h]
theorem ym_A {A P : Nat → Nat → Int32} {st mk pa ce wd us : Nat → Int32} {va si : Int32} {m : Nat} {x y : Int32} : ym (up2 (up2 A m 1 x) m 2 y) P st mk pa ce wd us va si = ym A P st mk pa ce wd us va si := by
  unfold ym
  rw [mkd_ao (show 0 ≠ 2 by decide), mkd_ao (show 0 ≠ 1 by decide), mkd_ao (show 3 ≠ 2 by decide), mkd_ao (show 3 ≠ 1 by decide), mkd_ao (show 4 ≠ 2 by decide), mkd_ao (show 4 ≠ 1 by decide), mkd_ao (show 5 ≠ 2 by decide), mkd_ao (show 5 ≠ 1 by decide), mkd_ao (show 6 ≠ 2 by decide), mkd_ao (show 6 ≠ 1 by decide)]
set_option maxRecDepth 100000 in
set_option maxHeartbeats 4000000 in
theorem lpM_restore {g : am_G} {d : Nat} {Q : Option am_V → am_H → Prop} {X : Nat → Nat → Nat → am_V} {A P : Nat → Nat → Int32} {st mk pa ce wd us : Nat → Int32} {si : Int32} {n : Nat} (hn : n ≤ 28) (K : Q none (hm X (ym A (q_rsn n A P) (q_idn n st) mk pa ce (q_wd0 n wd) us (nI n) si))) : ∀ (j i : Nat), i + j = n → am_T g mM_restore d 0 0 7 [some (am_O 20 0), some (am_I (nI i))] [] (hm X (ym A (q_rsn i A P) (q_idn i st) mk pa ce (q_wd0 i wd) us (nI n) si)) Q := by
  intro j
  induction j with
  | zero =>
    intro i hi
    refine am_iload_n (i := 1) dM_restore_7 rfl rfl ?_
    refine am_aload_n (i := 0) dM_restore_8 rfl rfl ?_
    refine am_getf dM_restore_9 flM_50 (by first | rfl | exact sk8 (by omega) | exact sk9 (by omega) | exact sk10 (by omega) | exact sk11 (by omega)) rfl ?_
    refine am_icmp_ge_T (tgt := 110) dM_restore_12 (by decide) ((nI_le' (by omega) (by omega)).mpr (by omega)) ?_
    refine am_vret (st := []) rfl dM_restore_110 ?_
    have e : i = n := by omega
    subst e
    exact K
  | succ j ih =>
    intro i hi
    refine am_iload_n (i := 1) dM_restore_7 rfl rfl ?_
    refine am_aload_n (i := 0) dM_restore_8 rfl rfl ?_
    refine am_getf dM_restore_9 flM_50 (by first | rfl | exact sk8 (by omega) | exact sk9 (by omega) | exact sk10 (by omega) | exact sk11 (by omega)) rfl ?_
    refine am_icmp_ge_F (tgt := 110) dM_restore_12 (by decide) (fun q => absurd ((nI_le' (by omega) (by omega)).mp q) (by omega)) ?_
    refine am_aload_n (i := 0) dM_restore_15 rfl rfl ?_
    refine am_getf dM_restore_16 flM_7 (by first | rfl | exact sk8 (by omega) | exact sk9 (by omega) | exact sk10 (by omega) | exact sk11 (by omega)) rfl ?_
    refine am_iload_n (i := 1) dM_restore_19 rfl rfl ?_
    refine am_aload_n (i := 0) dM_restore_20 rfl rfl ?_
    refine am_getf dM_restore_21 flM_7 (by first | rfl | exact sk8 (by omega) | exact sk9 (by omega) | exact sk10 (by omega) | exact sk11 (by omega)) rfl ?_
    refine am_bipush (v := 28) dM_restore_24 (by decide) ?_
    refine am_iload_n (i := 1) dM_restore_26 rfl rfl ?_
    refine am_iadd dM_restore_27 ?_
    refine am_iald dM_restore_28 (by first | rfl | exact sk8 (by omega) | exact sk9 (by omega) | exact sk10 (by omega) | exact sk11 (by omega)) (nI_add 28 i) (by first | omega | assumption | decide) (by decide) (by decide) (by first | exact congrArg am_I (mkd_lo (by omega)) | exact congrArg am_I (mkd_hi (by omega)) | rfl) ?_
    refine am_iast' dM_restore_29 (by first | rfl | exact sk8 (by omega) | exact sk9 (by omega) | exact sk10 (by omega) | exact sk11 (by omega)) rfl (by first | omega | assumption | decide) (by decide) (by decide) (by first | exact wm_kd (by omega) | exact wm_kh (by omega) | exact wm_fi (by omega) | exact wm_fh (by omega) | exact wm_se (by omega) | exact wm_sh (by omega) | exact wm_np (by omega) | exact wm_ph (by omega) | exact wm_nq (by omega) | exact wm_qh (by omega) | exact wm_ro | exact wm_co | exact wm_mm | exact wm_sd | exact wm_pa | exact wm_ce | exact wm_wd | exact wm_ud | exact wm_vn | exact wm_sm) ?_
    refine am_aload_n (i := 0) dM_restore_30 rfl rfl ?_
    refine am_getf dM_restore_31 flM_13 (by first | rfl | exact sk8 (by omega) | exact sk9 (by omega) | exact sk10 (by omega) | exact sk11 (by omega)) rfl ?_
    refine am_iload_n (i := 1) dM_restore_34 rfl rfl ?_
    refine am_aload_n (i := 0) dM_restore_35 rfl rfl ?_
    refine am_getf dM_restore_36 flM_13 (by first | rfl | exact sk8 (by omega) | exact sk9 (by omega) | exact sk10 (by omega) | exact sk11 (by omega)) rfl ?_
    refine am_bipush (v := 28) dM_restore_39 (by decide) ?_
    refine am_iload_n (i := 1) dM_restore_41 rfl rfl ?_
    refine am_iadd dM_restore_42 ?_
    refine am_iald dM_restore_43 (by first | rfl | exact sk8 (by omega) | exact sk9 (by omega) | exact sk10 (by omega) | exact sk11 (by omega)) (nI_add 28 i) (by first | omega | assumption | decide) (by decide) (by decide) (by first | exact congrArg am_I (mkd_lo (by omega)) | exact congrArg am_I (mkd_hi (by omega)) | rfl) ?_
    refine am_iast' dM_restore_44 (by first | rfl | exact sk8 (by omega) | exact sk9 (by omega) | exact sk10 (by omega) | exact sk11 (by omega)) rfl (by first | omega | assumption | decide) (by decide) (by decide) (by first | exact wm_kd (by omega) | exact wm_kh (by omega) | exact wm_fi (by omega) | exact wm_fh (by omega) | exact wm_se (by omega) | exact wm_sh (by omega) | exact wm_np (by omega) | exact wm_ph (by omega) | exact wm_nq (by omega) | exact wm_qh (by omega) | exact wm_ro | exact wm_co | exact wm_mm | exact wm_sd | exact wm_pa | exact wm_ce | exact wm_wd | exact wm_ud | exact wm_vn | exact wm_sm) ?_
    refine am_aload_n (i := 0) dM_restore_45 rfl rfl ?_
    refine am_getf dM_restore_46 flM_16 (by first | rfl | exact sk8 (by omega) | exact sk9 (by omega) | exact sk10 (by omega) | exact sk11 (by omega)) rfl ?_
    refine am_iload_n (i := 1) dM_restore_49 rfl rfl ?_
    refine am_aload_n (i := 0) dM_restore_50 rfl rfl ?_
    refine am_getf dM_restore_51 flM_16 (by first | rfl | exact sk8 (by omega) | exact sk9 (by omega) | exact sk10 (by omega) | exact sk11 (by omega)) rfl ?_
    refine am_bipush (v := 28) dM_restore_54 (by decide) ?_
    refine am_iload_n (i := 1) dM_restore_56 rfl rfl ?_
    refine am_iadd dM_restore_57 ?_
    refine am_iald dM_restore_58 (by first | rfl | exact sk8 (by omega) | exact sk9 (by omega) | exact sk10 (by omega) | exact sk11 (by omega)) (nI_add 28 i) (by first | omega | assumption | decide) (by decide) (by decide) (by first | exact congrArg am_I (mkd_lo (by omega)) | exact congrArg am_I (mkd_hi (by omega)) | rfl) ?_
    refine am_iast' dM_restore_59 (by first | rfl | exact sk8 (by omega) | exact sk9 (by omega) | exact sk10 (by omega) | exact sk11 (by omega)) rfl (by first | omega | assumption | decide) (by decide) (by decide) (by first | exact wm_kd (by omega) | exact wm_kh (by omega) | exact wm_fi (by omega) | exact wm_fh (by omega) | exact wm_se (by omega) | exact wm_sh (by omega) | exact wm_np (by omega) | exact wm_ph (by omega) | exact wm_nq (by omega) | exact wm_qh (by omega) | exact wm_ro | exact wm_co | exact wm_mm | exact wm_sd | exact wm_pa | exact wm_ce | exact wm_wd | exact wm_ud | exact wm_vn | exact wm_sm) ?_
    refine am_aload_n (i := 0) dM_restore_60 rfl rfl ?_
    refine am_getf dM_restore_61 flM_19 (by first | rfl | exact sk8 (by omega) | exact sk9 (by omega) | exact sk10 (by omega) | exact sk11 (by omega)) rfl ?_
    refine am_iload_n (i := 1) dM_restore_64 rfl rfl ?_
    refine am_aload_n (i := 0) dM_restore_65 rfl rfl ?_
    refine am_getf dM_restore_66 flM_19 (by first | rfl | exact sk8 (by omega) | exact sk9 (by omega) | exact sk10 (by omega) | exact sk11 (by omega)) rfl ?_
    refine am_bipush (v := 28) dM_restore_69 (by decide) ?_
    refine am_iload_n (i := 1) dM_restore_71 rfl rfl ?_
    refine am_iadd dM_restore_72 ?_
    refine am_iald dM_restore_73 (by first | rfl | exact sk8 (by omega) | exact sk9 (by omega) | exact sk10 (by omega) | exact sk11 (by omega)) (nI_add 28 i) (by first | omega | assumption | decide) (by decide) (by decide) (by first | exact congrArg am_I (mkd_lo (by omega)) | exact congrArg am_I (mkd_hi (by omega)) | rfl) ?_
    refine am_iast' dM_restore_74 (by first | rfl | exact sk8 (by omega) | exact sk9 (by omega) | exact sk10 (by omega) | exact sk11 (by omega)) rfl (by first | omega | assumption | decide) (by decide) (by decide) (by first | exact wm_kd (by omega) | exact wm_kh (by omega) | exact wm_fi (by omega) | exact wm_fh (by omega) | exact wm_se (by omega) | exact wm_sh (by omega) | exact wm_np (by omega) | exact wm_ph (by omega) | exact wm_nq (by omega) | exact wm_qh (by omega) | exact wm_ro | exact wm_co | exact wm_mm | exact wm_sd | exact wm_pa | exact wm_ce | exact wm_wd | exact wm_ud | exact wm_vn | exact wm_sm) ?_
    refine am_aload_n (i := 0) dM_restore_75 rfl rfl ?_
    refine am_getf dM_restore_76 flM_22 (by first | rfl | exact sk8 (by omega) | exact sk9 (by omega) | exact sk10 (by omega) | exact sk11 (by omega)) rfl ?_
    refine am_iload_n (i := 1) dM_restore_79 rfl rfl ?_
    refine am_aload_n (i := 0) dM_restore_80 rfl rfl ?_
    refine am_getf dM_restore_81 flM_22 (by first | rfl | exact sk8 (by omega) | exact sk9 (by omega) | exact sk10 (by omega) | exact sk11 (by omega)) rfl ?_
    refine am_bipush (v := 28) dM_restore_84 (by decide) ?_
    refine am_iload_n (i := 1) dM_restore_86 rfl rfl ?_
    refine am_iadd dM_restore_87 ?_
    refine am_iald dM_restore_88 (by first | rfl | exact sk8 (by omega) | exact sk9 (by omega) | exact sk10 (by omega) | exact sk11 (by omega)) (nI_add 28 i) (by first | omega | assumption | decide) (by decide) (by decide) (by first | exact congrArg am_I (mkd_lo (by omega)) | exact congrArg am_I (mkd_hi (by omega)) | rfl) ?_
    refine am_iast' dM_restore_89 (by first | rfl | exact sk8 (by omega) | exact sk9 (by omega) | exact sk10 (by omega) | exact sk11 (by omega)) rfl (by first | omega | assumption | decide) (by decide) (by decide) (by first | exact wm_kd (by omega) | exact wm_kh (by omega) | exact wm_fi (by omega) | exact wm_fh (by omega) | exact wm_se (by omega) | exact wm_sh (by omega) | exact wm_np (by omega) | exact wm_ph (by omega) | exact wm_nq (by omega) | exact wm_qh (by omega) | exact wm_ro | exact wm_co | exact wm_mm | exact wm_sd | exact wm_pa | exact wm_ce | exact wm_wd | exact wm_ud | exact wm_vn | exact wm_sm) ?_
    refine am_aload_n (i := 0) dM_restore_90 rfl rfl ?_
    refine am_getf dM_restore_91 flM_35 (by first | rfl | exact sk8 (by omega) | exact sk9 (by omega) | exact sk10 (by omega) | exact sk11 (by omega)) rfl ?_
    refine am_iload_n (i := 1) dM_restore_94 rfl rfl ?_
    refine am_iload_n (i := 1) dM_restore_95 rfl rfl ?_
    refine am_iast' dM_restore_96 (by first | rfl | exact sk8 (by omega) | exact sk9 (by omega) | exact sk10 (by omega) | exact sk11 (by omega)) rfl (by first | omega | assumption | decide) (by decide) (by decide) (by first | exact wm_kd (by omega) | exact wm_kh (by omega) | exact wm_fi (by omega) | exact wm_fh (by omega) | exact wm_se (by omega) | exact wm_sh (by omega) | exact wm_np (by omega) | exact wm_ph (by omega) | exact wm_nq (by omega) | exact wm_qh (by omega) | exact wm_ro | exact wm_co | exact wm_mm | exact wm_sd | exact wm_pa | exact wm_ce | exact wm_wd | exact wm_ud | exact wm_vn | exact wm_sm) ?_
    refine am_aload_n (i := 0) dM_restore_97 rfl rfl ?_
    refine am_getf dM_restore_98 flM_44 (by first | rfl | exact sk8 (by omega) | exact sk9 (by omega) | exact sk10 (by omega) | exact sk11 (by omega)) rfl ?_
    refine am_iload_n (i := 1) dM_restore_101 rfl rfl ?_
    refine am_iconst (v := 0) dM_restore_102 (by decide) ?_
    refine am_zast' dM_restore_103 (by first | rfl | exact sk8 (by omega) | exact sk9 (by omega) | exact sk10 (by omega) | exact sk11 (by omega)) rfl (by first | omega | assumption | decide) (by decide) (by decide) rfl (by first | exact wm_kd (by omega) | exact wm_kh (by omega) | exact wm_fi (by omega) | exact wm_fh (by omega) | exact wm_se (by omega) | exact wm_sh (by omega) | exact wm_np (by omega) | exact wm_ph (by omega) | exact wm_nq (by omega) | exact wm_qh (by omega) | exact wm_ro | exact wm_co | exact wm_mm | exact wm_sd | exact wm_pa | exact wm_ce | exact wm_wd | exact wm_ud | exact wm_vn | exact wm_sm) ?_
    refine am_iinc dM_restore_104 rfl (by first | exact nI_1 _ | exact pk_m1 _ | rfl) (by decide) ?_
    refine am_goto (tgt := 7) dM_restore_107 (by decide) ?_
    refine am_hT (h' := (hm X (ym A (q_rsn (i + 1) A P) (q_idn (i + 1) st) mk pa ce (q_wd0 (i + 1) wd) us (nI n) si))) ?_ (ih (i + 1) (by omega))
    congr 2
    · exact q_rsn_s
    · funext u
      unfold upd q_idn
      grind
    · funext u
      unfold upd q_wd0
      grind
set_option maxRecDepth 100000 in
set_option maxHeartbeats 4000000 in
theorem cM_restore {g : am_G} {d : Nat} {Q : Option am_V → am_H → Prop} {X : Nat → Nat → Nat → am_V} {A P : Nat → Nat → Int32} {st mk pa ce wd us : Nat → Int32} {si : Int32} {n : Nat} (hn : n ≤ 28) (k : Q none (hm X (ym A (q_rsn n A P) (q_idn n st) mk pa ce (q_wd0 n wd) us (nI n) 0))) : am_C g mM_restore d 0 0 [am_O 20 0] (hm X (ym A P st mk pa ce wd us (nI n) si)) Q := by
  refine am_enter (lv := [some (am_O 20 0), none]) rfl rfl (am_cat1 rfl) (Nat.le_of_ble_eq_true rfl) ?_
  refine am_aload_n (i := 0) dM_restore_0 rfl rfl ?_
  refine am_iconst (v := 0) dM_restore_1 (by decide) ?_
  refine am_putf' dM_restore_2 flM_54 (by first | rfl | exact sk8 (by omega) | exact sk9 (by omega) | exact sk10 (by omega) | exact sk11 (by omega)) rfl (fun _ => ⟨rfl, rfl⟩) (by first | exact wm_kd (by omega) | exact wm_kh (by omega) | exact wm_fi (by omega) | exact wm_fh (by omega) | exact wm_se (by omega) | exact wm_sh (by omega) | exact wm_np (by omega) | exact wm_ph (by omega) | exact wm_nq (by omega) | exact wm_qh (by omega) | exact wm_ro | exact wm_co | exact wm_mm | exact wm_sd | exact wm_pa | exact wm_ce | exact wm_wd | exact wm_ud | exact wm_vn | exact wm_sm) ?_
  refine am_iconst (v := 0) dM_restore_5 (by decide) ?_
  refine am_istore_n (i := 1) dM_restore_6 rfl (by decide) ?_
  refine am_hT (h' := (hm X (ym A (q_rsn 0 A P) (q_idn 0 st) mk pa ce (q_wd0 0 wd) us (nI n) 0))) (by congr 2) (lpM_restore hn k n 0 (by omega))
set_option maxRecDepth 100000 in
set_option maxHeartbeats 4000000 in
theorem cM_add {g : am_G} {d : Nat} {Q : Option am_V → am_H → Prop} {X : Nat → Nat → Nat → am_V} {A P : Nat → Nat → Int32} {st mk pa ce wd us : Nat → Int32} {si : Int32} {n : Nat} {κ a b p q x y : Int32} (hn : n ≤ 28) (hsh : q_sha n A P) (hmk : mk n = 0) (kf : n = 28 → Q (some (am_I (-2))) (hm X (ym A P st mk pa ce wd us (nI n) si))) (ka : n < 28 → ∀ A1 T S W, A1 = q_new A n κ a b p q x y → T = q_cpn (n + 1) A1 P → S = q_idn (n + 1) st → W = q_wd0 (n + 1) wd → Q (some (am_I (nI n))) (hm X (ym A1 T S mk pa ce W us (nI (n + 1)) 0))) : am_C g mM_add (d + 1) 0 0 [am_O 20 0, am_I κ, am_I a, am_I b, am_I p, am_I q, am_I x, am_I y] (hm X (ym A P st mk pa ce wd us (nI n) si)) Q := by
  refine am_enter (lv := [some (am_O 20 0), some (am_I κ), some (am_I a), some (am_I b), some (am_I p), some (am_I q), some (am_I x), some (am_I y)]) rfl rfl (am_cat1 rfl) (Nat.le_of_ble_eq_true rfl) ?_
  refine am_aload_n (i := 0) dM_add_0 rfl rfl ?_
  refine am_getf dM_add_1 flM_50 (by first | rfl | exact sk8 (by omega) | exact sk9 (by omega) | exact sk10 (by omega) | exact sk11 (by omega)) rfl ?_
  refine am_bipush (v := 28) dM_add_4 (by decide) ?_
  refine am_icmp_ne (tgt := 12) dM_add_6 (by decide) (fun c6 => ?_) (fun c6 => ?_)
  · have hlt : n < 28 := by have := mt (q_eq28 hn).mpr c6; omega
    refine am_aload_n (i := 0) dM_add_12 rfl rfl ?_
    refine am_getf dM_add_13 flM_7 (by first | rfl | exact sk8 (by omega) | exact sk9 (by omega) | exact sk10 (by omega) | exact sk11 (by omega)) rfl ?_
    refine am_bipush (v := 28) dM_add_16 (by decide) ?_
    refine am_aload_n (i := 0) dM_add_18 rfl rfl ?_
    refine am_getf dM_add_19 flM_50 (by first | rfl | exact sk8 (by omega) | exact sk9 (by omega) | exact sk10 (by omega) | exact sk11 (by omega)) rfl ?_
    refine am_iadd dM_add_22 ?_
    refine am_iload_n (i := 1) dM_add_23 rfl rfl ?_
    refine am_iast' dM_add_24 (by first | rfl | exact sk8 (by omega) | exact sk9 (by omega) | exact sk10 (by omega) | exact sk11 (by omega)) (nI_add 28 n) (by first | omega | assumption | decide) (by decide) (by decide) (by first | exact wm_kd (by omega) | exact wm_kh (by omega) | exact wm_fi (by omega) | exact wm_fh (by omega) | exact wm_se (by omega) | exact wm_sh (by omega) | exact wm_np (by omega) | exact wm_ph (by omega) | exact wm_nq (by omega) | exact wm_qh (by omega) | exact wm_ro | exact wm_co | exact wm_mm | exact wm_sd | exact wm_pa | exact wm_ce | exact wm_wd | exact wm_ud | exact wm_vn | exact wm_sm) ?_
    refine am_aload_n (i := 0) dM_add_25 rfl rfl ?_
    refine am_getf dM_add_26 flM_13 (by first | rfl | exact sk8 (by omega) | exact sk9 (by omega) | exact sk10 (by omega) | exact sk11 (by omega)) rfl ?_
    refine am_bipush (v := 28) dM_add_29 (by decide) ?_
    refine am_aload_n (i := 0) dM_add_31 rfl rfl ?_
    refine am_getf dM_add_32 flM_50 (by first | rfl | exact sk8 (by omega) | exact sk9 (by omega) | exact sk10 (by omega) | exact sk11 (by omega)) rfl ?_
    refine am_iadd dM_add_35 ?_
    refine am_iload_n (i := 2) dM_add_36 rfl rfl ?_
    refine am_iast' dM_add_37 (by first | rfl | exact sk8 (by omega) | exact sk9 (by omega) | exact sk10 (by omega) | exact sk11 (by omega)) (nI_add 28 n) (by first | omega | assumption | decide) (by decide) (by decide) (by first | exact wm_kd (by omega) | exact wm_kh (by omega) | exact wm_fi (by omega) | exact wm_fh (by omega) | exact wm_se (by omega) | exact wm_sh (by omega) | exact wm_np (by omega) | exact wm_ph (by omega) | exact wm_nq (by omega) | exact wm_qh (by omega) | exact wm_ro | exact wm_co | exact wm_mm | exact wm_sd | exact wm_pa | exact wm_ce | exact wm_wd | exact wm_ud | exact wm_vn | exact wm_sm) ?_
    refine am_aload_n (i := 0) dM_add_38 rfl rfl ?_
    refine am_getf dM_add_39 flM_16 (by first | rfl | exact sk8 (by omega) | exact sk9 (by omega) | exact sk10 (by omega) | exact sk11 (by omega)) rfl ?_
    refine am_bipush (v := 28) dM_add_42 (by decide) ?_
    refine am_aload_n (i := 0) dM_add_44 rfl rfl ?_
    refine am_getf dM_add_45 flM_50 (by first | rfl | exact sk8 (by omega) | exact sk9 (by omega) | exact sk10 (by omega) | exact sk11 (by omega)) rfl ?_
    refine am_iadd dM_add_48 ?_
    refine am_iload_n (i := 3) dM_add_49 rfl rfl ?_
    refine am_iast' dM_add_50 (by first | rfl | exact sk8 (by omega) | exact sk9 (by omega) | exact sk10 (by omega) | exact sk11 (by omega)) (nI_add 28 n) (by first | omega | assumption | decide) (by decide) (by decide) (by first | exact wm_kd (by omega) | exact wm_kh (by omega) | exact wm_fi (by omega) | exact wm_fh (by omega) | exact wm_se (by omega) | exact wm_sh (by omega) | exact wm_np (by omega) | exact wm_ph (by omega) | exact wm_nq (by omega) | exact wm_qh (by omega) | exact wm_ro | exact wm_co | exact wm_mm | exact wm_sd | exact wm_pa | exact wm_ce | exact wm_wd | exact wm_ud | exact wm_vn | exact wm_sm) ?_
    refine am_aload_n (i := 0) dM_add_51 rfl rfl ?_
    refine am_getf dM_add_52 flM_19 (by first | rfl | exact sk8 (by omega) | exact sk9 (by omega) | exact sk10 (by omega) | exact sk11 (by omega)) rfl ?_
    refine am_bipush (v := 28) dM_add_55 (by decide) ?_
    refine am_aload_n (i := 0) dM_add_57 rfl rfl ?_
    refine am_getf dM_add_58 flM_50 (by first | rfl | exact sk8 (by omega) | exact sk9 (by omega) | exact sk10 (by omega) | exact sk11 (by omega)) rfl ?_
    refine am_iadd dM_add_61 ?_
    refine am_iload (i := 4) dM_add_62 rfl ?_
    refine am_iast' dM_add_64 (by first | rfl | exact sk8 (by omega) | exact sk9 (by omega) | exact sk10 (by omega) | exact sk11 (by omega)) (nI_add 28 n) (by first | omega | assumption | decide) (by decide) (by decide) (by first | exact wm_kd (by omega) | exact wm_kh (by omega) | exact wm_fi (by omega) | exact wm_fh (by omega) | exact wm_se (by omega) | exact wm_sh (by omega) | exact wm_np (by omega) | exact wm_ph (by omega) | exact wm_nq (by omega) | exact wm_qh (by omega) | exact wm_ro | exact wm_co | exact wm_mm | exact wm_sd | exact wm_pa | exact wm_ce | exact wm_wd | exact wm_ud | exact wm_vn | exact wm_sm) ?_
    refine am_aload_n (i := 0) dM_add_65 rfl rfl ?_
    refine am_getf dM_add_66 flM_22 (by first | rfl | exact sk8 (by omega) | exact sk9 (by omega) | exact sk10 (by omega) | exact sk11 (by omega)) rfl ?_
    refine am_bipush (v := 28) dM_add_69 (by decide) ?_
    refine am_aload_n (i := 0) dM_add_71 rfl rfl ?_
    refine am_getf dM_add_72 flM_50 (by first | rfl | exact sk8 (by omega) | exact sk9 (by omega) | exact sk10 (by omega) | exact sk11 (by omega)) rfl ?_
    refine am_iadd dM_add_75 ?_
    refine am_iload (i := 5) dM_add_76 rfl ?_
    refine am_iast' dM_add_78 (by first | rfl | exact sk8 (by omega) | exact sk9 (by omega) | exact sk10 (by omega) | exact sk11 (by omega)) (nI_add 28 n) (by first | omega | assumption | decide) (by decide) (by decide) (by first | exact wm_kd (by omega) | exact wm_kh (by omega) | exact wm_fi (by omega) | exact wm_fh (by omega) | exact wm_se (by omega) | exact wm_sh (by omega) | exact wm_np (by omega) | exact wm_ph (by omega) | exact wm_nq (by omega) | exact wm_qh (by omega) | exact wm_ro | exact wm_co | exact wm_mm | exact wm_sd | exact wm_pa | exact wm_ce | exact wm_wd | exact wm_ud | exact wm_vn | exact wm_sm) ?_
    refine am_aload_n (i := 0) dM_add_79 rfl rfl ?_
    refine am_getf dM_add_80 flM_25 (by first | rfl | exact sk8 (by omega) | exact sk9 (by omega) | exact sk10 (by omega) | exact sk11 (by omega)) rfl ?_
    refine am_aload_n (i := 0) dM_add_83 rfl rfl ?_
    refine am_getf dM_add_84 flM_50 (by first | rfl | exact sk8 (by omega) | exact sk9 (by omega) | exact sk10 (by omega) | exact sk11 (by omega)) rfl ?_
    refine am_iload (i := 6) dM_add_87 rfl ?_
    refine am_iast' dM_add_89 (by first | rfl | exact sk8 (by omega) | exact sk9 (by omega) | exact sk10 (by omega) | exact sk11 (by omega)) rfl (by first | omega | assumption | decide) (by decide) (by decide) (by first | exact wm_kd (by omega) | exact wm_kh (by omega) | exact wm_fi (by omega) | exact wm_fh (by omega) | exact wm_se (by omega) | exact wm_sh (by omega) | exact wm_np (by omega) | exact wm_ph (by omega) | exact wm_nq (by omega) | exact wm_qh (by omega) | exact wm_ro | exact wm_co | exact wm_mm | exact wm_sd | exact wm_pa | exact wm_ce | exact wm_wd | exact wm_ud | exact wm_vn | exact wm_sm) ?_
    refine am_aload_n (i := 0) dM_add_90 rfl rfl ?_
    refine am_getf dM_add_91 flM_28 (by first | rfl | exact sk8 (by omega) | exact sk9 (by omega) | exact sk10 (by omega) | exact sk11 (by omega)) rfl ?_
    refine am_aload_n (i := 0) dM_add_94 rfl rfl ?_
    refine am_getf dM_add_95 flM_50 (by first | rfl | exact sk8 (by omega) | exact sk9 (by omega) | exact sk10 (by omega) | exact sk11 (by omega)) rfl ?_
    refine am_iload (i := 7) dM_add_98 rfl ?_
    refine am_iast' dM_add_100 (by first | rfl | exact sk8 (by omega) | exact sk9 (by omega) | exact sk10 (by omega) | exact sk11 (by omega)) rfl (by first | omega | assumption | decide) (by decide) (by decide) (by first | exact wm_kd (by omega) | exact wm_kh (by omega) | exact wm_fi (by omega) | exact wm_fh (by omega) | exact wm_se (by omega) | exact wm_sh (by omega) | exact wm_np (by omega) | exact wm_ph (by omega) | exact wm_nq (by omega) | exact wm_qh (by omega) | exact wm_ro | exact wm_co | exact wm_mm | exact wm_sd | exact wm_pa | exact wm_ce | exact wm_wd | exact wm_ud | exact wm_vn | exact wm_sm) ?_
    refine am_aload_n (i := 0) dM_add_101 rfl rfl ?_
    refine am_getf dM_add_102 flM_31 (by first | rfl | exact sk8 (by omega) | exact sk9 (by omega) | exact sk10 (by omega) | exact sk11 (by omega)) rfl ?_
    refine am_aload_n (i := 0) dM_add_105 rfl rfl ?_
    refine am_getf dM_add_106 flM_50 (by first | rfl | exact sk8 (by omega) | exact sk9 (by omega) | exact sk10 (by omega) | exact sk11 (by omega)) rfl ?_
    refine am_iconst (v := 0) dM_add_109 (by decide) ?_
    refine am_zast' dM_add_110 (by first | rfl | exact sk8 (by omega) | exact sk9 (by omega) | exact sk10 (by omega) | exact sk11 (by omega)) rfl (by first | omega | assumption | decide) (by decide) (by decide) rfl (by first | exact wm_kd (by omega) | exact wm_kh (by omega) | exact wm_fi (by omega) | exact wm_fh (by omega) | exact wm_se (by omega) | exact wm_sh (by omega) | exact wm_np (by omega) | exact wm_ph (by omega) | exact wm_nq (by omega) | exact wm_qh (by omega) | exact wm_ro | exact wm_co | exact wm_mm | exact wm_sd | exact wm_pa | exact wm_ce | exact wm_wd | exact wm_ud | exact wm_vn | exact wm_sm) ?_
    refine am_aload_n (i := 0) dM_add_111 rfl rfl ?_
    refine am_dup dM_add_112 rfl ?_
    refine am_getf dM_add_113 flM_50 (by first | rfl | exact sk8 (by omega) | exact sk9 (by omega) | exact sk10 (by omega) | exact sk11 (by omega)) rfl ?_
    refine am_iconst (v := 1) dM_add_116 (by decide) ?_
    refine am_iadd dM_add_117 ?_
    refine am_sT (st' := am_I (nI (n + 1)) :: _) (congrArg (fun z => am_I z :: _) (nI_1 n)) ?_
    refine am_putf' dM_add_118 flM_50 (by first | rfl | exact sk8 (by omega) | exact sk9 (by omega) | exact sk10 (by omega) | exact sk11 (by omega)) rfl (fun _ => ⟨rfl, rfl⟩) (by first | exact wm_kd (by omega) | exact wm_kh (by omega) | exact wm_fi (by omega) | exact wm_fh (by omega) | exact wm_se (by omega) | exact wm_sh (by omega) | exact wm_np (by omega) | exact wm_ph (by omega) | exact wm_nq (by omega) | exact wm_qh (by omega) | exact wm_ro | exact wm_co | exact wm_mm | exact wm_sd | exact wm_pa | exact wm_ce | exact wm_wd | exact wm_ud | exact wm_vn | exact wm_sm) ?_
    refine am_aload_n (i := 0) dM_add_121 rfl rfl ?_
    refine am_callV (ac' := 0) (as' := 0) (xs := []) dM_add_122 lkM_58 (by first | rfl | exact sk8 (by omega) | exact sk9 (by omega) | exact sk10 (by omega) | exact sk11 (by omega)) rfl rfl rfl rfl (Nat.le_of_ble_eq_true rfl) rfl rfl (cM_restore (n := n + 1) (by omega) ?_)
    refine am_aload_n (i := 0) dM_add_125 rfl rfl ?_
    refine am_getf dM_add_126 flM_50 (by first | rfl | exact sk8 (by omega) | exact sk9 (by omega) | exact sk10 (by omega) | exact sk11 (by omega)) rfl ?_
    refine am_iconst (v := 1) dM_add_129 (by decide) ?_
    refine am_isub dM_add_130 ?_
    refine am_sT (st' := am_I (nI n) :: _) (congrArg (fun z => am_I z :: _) (nI_pred n)) ?_
    refine am_iret (st := []) rfl rfl dM_add_131 ?_
    have h := ka hlt _ _ _ _ rfl rfl rfl rfl
    have e1 : upd mk n 0 = mk := by
      funext u
      unfold upd
      grind
    have e2 : q_cpn (n + 1) (q_new A n κ a b p q x y) P = q_rsn (n + 1) (q_bec A n κ a b p q) (up2 (up2 P n 1 x) n 2 y) := by
      rw [← q_cpn_up (x := x) (y := y), ← q_rsn_cpn (q_new_sha hsh)]
      unfold q_new
      rw [q_rsn_A]
    rw [e2] at h
    unfold q_new at h
    rw [ym_A] at h
    rw [e1]
    exact h
  · refine am_bipush (v := (-2)) dM_add_9 (by decide) ?_
    refine am_iret (st := []) rfl rfl dM_add_11 ?_
    exact kf ((q_eq28 hn).mp c6)
set_option maxRecDepth 100000 in
set_option maxHeartbeats 4000000 in
theorem cM_source {g : am_G} {d : Nat} {Q : Option am_V → am_H → Prop} {X : Nat → Nat → Nat → am_V} {A P : Nat → Nat → Int32} {st mk pa ce wd us : Nat → Int32} {si : Int32} {n : Nat} {κ x y p : Int32} (hn : n ≤ 28) (hsh : q_sha n A P) (hmk : mk n = 0) (kr : ¬ q_srcOk κ x y p → Q (some (am_I (-1))) (hm X (ym A P st mk pa ce wd us (nI n) si))) (kf : q_srcOk κ x y p → n = 28 → Q (some (am_I (-2))) (hm X (ym A P st mk pa ce wd us (nI n) si))) (ka : q_srcOk κ x y p → n < 28 → ∀ A1 T S W, A1 = q_new A n κ (-1) (-1) p 0 x y → T = q_cpn (n + 1) A1 P → S = q_idn (n + 1) st → W = q_wd0 (n + 1) wd → Q (some (am_I (nI n))) (hm X (ym A1 T S mk pa ce W us (nI (n + 1)) 0))) : am_C g mM_source (d + 2) 0 0 [am_O 20 0, am_I κ, am_I x, am_I y, am_I p] (hm X (ym A P st mk pa ce wd us (nI n) si)) Q := by
  refine am_enter (lv := [some (am_O 20 0), some (am_I κ), some (am_I x), some (am_I y), some (am_I p)]) rfl rfl (am_cat1 rfl) (Nat.le_of_ble_eq_true rfl) ?_
  refine am_aload_n (i := 0) dM_source_0 rfl rfl ?_
  refine am_iload_n (i := 1) dM_source_1 rfl rfl ?_
  refine am_iconst (v := 0) dM_source_2 (by decide) ?_
  refine am_iconst (v := 2) dM_source_3 (by decide) ?_
  refine am_callV (ac' := 0) (as' := 0) (xs := [_, _, _]) dM_source_4 lkM_61 (by first | rfl | exact sk8 (by omega) | exact sk9 (by omega) | exact sk10 (by omega) | exact sk11 (by omega)) rfl rfl rfl rfl (Nat.le_of_ble_eq_true rfl) rfl rfl (cM_off (fun o4 => ?_) (fun o4 => ?_))
  · refine am_if_ne_T (tgt := 30) dM_source_7 (by decide) (by decide) ?_
    refine am_iconst (v := (-1)) dM_source_30 (by decide) ?_
    refine am_iret (st := []) rfl rfl dM_source_31 ?_
    exact kr (by grind)
  · refine am_if_ne_F (tgt := 30) dM_source_7 (by decide) (by decide) ?_
    refine am_aload_n (i := 0) dM_source_10 rfl rfl ?_
    refine am_iload_n (i := 2) dM_source_11 rfl rfl ?_
    refine am_iconst (v := 1) dM_source_12 (by decide) ?_
    refine am_iconst (v := 4) dM_source_13 (by decide) ?_
    refine am_callV (ac' := 0) (as' := 0) (xs := [_, _, _]) dM_source_14 lkM_61 (by first | rfl | exact sk8 (by omega) | exact sk9 (by omega) | exact sk10 (by omega) | exact sk11 (by omega)) rfl rfl rfl rfl (Nat.le_of_ble_eq_true rfl) rfl rfl (cM_off (fun o14 => ?_) (fun o14 => ?_))
    · refine am_if_ne_T (tgt := 30) dM_source_17 (by decide) (by decide) ?_
      refine am_iconst (v := (-1)) dM_source_30 (by decide) ?_
      refine am_iret (st := []) rfl rfl dM_source_31 ?_
      exact kr (by grind)
    · refine am_if_ne_F (tgt := 30) dM_source_17 (by decide) (by decide) ?_
      refine am_aload_n (i := 0) dM_source_20 rfl rfl ?_
      refine am_iload_n (i := 3) dM_source_21 rfl rfl ?_
      refine am_iconst (v := 1) dM_source_22 (by decide) ?_
      refine am_iconst (v := 4) dM_source_23 (by decide) ?_
      refine am_callV (ac' := 0) (as' := 0) (xs := [_, _, _]) dM_source_24 lkM_61 (by first | rfl | exact sk8 (by omega) | exact sk9 (by omega) | exact sk10 (by omega) | exact sk11 (by omega)) rfl rfl rfl rfl (Nat.le_of_ble_eq_true rfl) rfl rfl (cM_off (fun o24 => ?_) (fun o24 => ?_))
      · refine am_if_eq_F (tgt := 32) dM_source_27 (by decide) (by decide) ?_
        refine am_iconst (v := (-1)) dM_source_30 (by decide) ?_
        refine am_iret (st := []) rfl rfl dM_source_31 ?_
        exact kr (by grind)
      · refine am_if_eq_T (tgt := 32) dM_source_27 (by decide) (by decide) ?_
        refine am_iload_n (i := 1) dM_source_32 rfl rfl ?_
        refine am_if_ne (tgt := 47) dM_source_33 (by decide) (fun c33 => ?_) (fun c33 => ?_)
        · refine am_iload_n (i := 1) dM_source_47 rfl rfl ?_
          refine am_iconst (v := 2) dM_source_48 (by decide) ?_
          refine am_icmp_ne (tgt := 65) dM_source_49 (by decide) (fun c49 => ?_) (fun c49 => ?_)
          · refine am_aload_n (i := 0) dM_source_65 rfl rfl ?_
            refine am_iload_n (i := 1) dM_source_66 rfl rfl ?_
            refine am_iconst (v := (-1)) dM_source_67 (by decide) ?_
            refine am_iconst (v := (-1)) dM_source_68 (by decide) ?_
            refine am_iload (i := 4) dM_source_69 rfl ?_
            refine am_iconst (v := 0) dM_source_71 (by decide) ?_
            refine am_iload_n (i := 2) dM_source_72 rfl rfl ?_
            refine am_iload_n (i := 3) dM_source_73 rfl rfl ?_
            refine am_callV (ac' := 0) (as' := 0) (xs := [_, _, _, _, _, _, _]) dM_source_74 lkM_65 (by first | rfl | exact sk8 (by omega) | exact sk9 (by omega) | exact sk10 (by omega) | exact sk11 (by omega)) rfl rfl rfl rfl (Nat.le_of_ble_eq_true rfl) rfl rfl (cM_add hn hsh hmk (fun c28 => ?_) (fun hlt A1 T S W e1 e2 e3 e4 => ?_))
            · refine am_iret (st := []) rfl rfl dM_source_77 ?_
              exact kf (by grind) c28
            · refine am_iret (st := []) rfl rfl dM_source_77 ?_
              exact ka (by grind) hlt _ _ _ _ e1 e2 e3 e4
          · refine am_aload_n (i := 0) dM_source_52 rfl rfl ?_
            refine am_iload (i := 4) dM_source_53 rfl ?_
            refine am_iconst (v := 0) dM_source_55 (by decide) ?_
            refine am_iconst (v := 1) dM_source_56 (by decide) ?_
            refine am_callV (ac' := 0) (as' := 0) (xs := [_, _, _]) dM_source_57 lkM_61 (by first | rfl | exact sk8 (by omega) | exact sk9 (by omega) | exact sk10 (by omega) | exact sk11 (by omega)) rfl rfl rfl rfl (Nat.le_of_ble_eq_true rfl) rfl rfl (cM_off (fun o57 => ?_) (fun o57 => ?_))
            · refine am_if_eq_F (tgt := 65) dM_source_60 (by decide) (by decide) ?_
              refine am_iconst (v := (-1)) dM_source_63 (by decide) ?_
              refine am_iret (st := []) rfl rfl dM_source_64 ?_
              exact kr (by grind)
            · refine am_if_eq_T (tgt := 65) dM_source_60 (by decide) (by decide) ?_
              refine am_aload_n (i := 0) dM_source_65 rfl rfl ?_
              refine am_iload_n (i := 1) dM_source_66 rfl rfl ?_
              refine am_iconst (v := (-1)) dM_source_67 (by decide) ?_
              refine am_iconst (v := (-1)) dM_source_68 (by decide) ?_
              refine am_iload (i := 4) dM_source_69 rfl ?_
              refine am_iconst (v := 0) dM_source_71 (by decide) ?_
              refine am_iload_n (i := 2) dM_source_72 rfl rfl ?_
              refine am_iload_n (i := 3) dM_source_73 rfl rfl ?_
              refine am_callV (ac' := 0) (as' := 0) (xs := [_, _, _, _, _, _, _]) dM_source_74 lkM_65 (by first | rfl | exact sk8 (by omega) | exact sk9 (by omega) | exact sk10 (by omega) | exact sk11 (by omega)) rfl rfl rfl rfl (Nat.le_of_ble_eq_true rfl) rfl rfl (cM_add hn hsh hmk (fun c28 => ?_) (fun hlt A1 T S W e1 e2 e3 e4 => ?_))
              · refine am_iret (st := []) rfl rfl dM_source_77 ?_
                exact kf (by grind) c28
              · refine am_iret (st := []) rfl rfl dM_source_77 ?_
                exact ka (by grind) hlt _ _ _ _ e1 e2 e3 e4
        · refine am_aload_n (i := 0) dM_source_36 rfl rfl ?_
          refine am_iload (i := 4) dM_source_37 rfl ?_
          refine am_iconst (v := 0) dM_source_39 (by decide) ?_
          refine am_iconst (v := 3) dM_source_40 (by decide) ?_
          refine am_callV (ac' := 0) (as' := 0) (xs := [_, _, _]) dM_source_41 lkM_61 (by first | rfl | exact sk8 (by omega) | exact sk9 (by omega) | exact sk10 (by omega) | exact sk11 (by omega)) rfl rfl rfl rfl (Nat.le_of_ble_eq_true rfl) rfl rfl (cM_off (fun o41 => ?_) (fun o41 => ?_))
          · refine am_if_ne_T (tgt := 63) dM_source_44 (by decide) (by decide) ?_
            refine am_iconst (v := (-1)) dM_source_63 (by decide) ?_
            refine am_iret (st := []) rfl rfl dM_source_64 ?_
            exact kr (by grind)
          · refine am_if_ne_F (tgt := 63) dM_source_44 (by decide) (by decide) ?_
            refine am_iload_n (i := 1) dM_source_47 rfl rfl ?_
            refine am_iconst (v := 2) dM_source_48 (by decide) ?_
            refine am_icmp_ne (tgt := 65) dM_source_49 (by decide) (fun c49 => ?_) (fun c49 => ?_)
            · refine am_aload_n (i := 0) dM_source_65 rfl rfl ?_
              refine am_iload_n (i := 1) dM_source_66 rfl rfl ?_
              refine am_iconst (v := (-1)) dM_source_67 (by decide) ?_
              refine am_iconst (v := (-1)) dM_source_68 (by decide) ?_
              refine am_iload (i := 4) dM_source_69 rfl ?_
              refine am_iconst (v := 0) dM_source_71 (by decide) ?_
              refine am_iload_n (i := 2) dM_source_72 rfl rfl ?_
              refine am_iload_n (i := 3) dM_source_73 rfl rfl ?_
              refine am_callV (ac' := 0) (as' := 0) (xs := [_, _, _, _, _, _, _]) dM_source_74 lkM_65 (by first | rfl | exact sk8 (by omega) | exact sk9 (by omega) | exact sk10 (by omega) | exact sk11 (by omega)) rfl rfl rfl rfl (Nat.le_of_ble_eq_true rfl) rfl rfl (cM_add hn hsh hmk (fun c28 => ?_) (fun hlt A1 T S W e1 e2 e3 e4 => ?_))
              · refine am_iret (st := []) rfl rfl dM_source_77 ?_
                exact kf (by grind) c28
              · refine am_iret (st := []) rfl rfl dM_source_77 ?_
                exact ka (by grind) hlt _ _ _ _ e1 e2 e3 e4
            · refine am_aload_n (i := 0) dM_source_52 rfl rfl ?_
              refine am_iload (i := 4) dM_source_53 rfl ?_
              refine am_iconst (v := 0) dM_source_55 (by decide) ?_
              refine am_iconst (v := 1) dM_source_56 (by decide) ?_
              refine am_callV (ac' := 0) (as' := 0) (xs := [_, _, _]) dM_source_57 lkM_61 (by first | rfl | exact sk8 (by omega) | exact sk9 (by omega) | exact sk10 (by omega) | exact sk11 (by omega)) rfl rfl rfl rfl (Nat.le_of_ble_eq_true rfl) rfl rfl (cM_off (fun o57 => ?_) (fun o57 => ?_))
              · refine am_if_eq_F (tgt := 65) dM_source_60 (by decide) (by decide) ?_
                refine am_iconst (v := (-1)) dM_source_63 (by decide) ?_
                refine am_iret (st := []) rfl rfl dM_source_64 ?_
                exact kr (by grind)
              · refine am_if_eq_T (tgt := 65) dM_source_60 (by decide) (by decide) ?_
                refine am_aload_n (i := 0) dM_source_65 rfl rfl ?_
                refine am_iload_n (i := 1) dM_source_66 rfl rfl ?_
                refine am_iconst (v := (-1)) dM_source_67 (by decide) ?_
                refine am_iconst (v := (-1)) dM_source_68 (by decide) ?_
                refine am_iload (i := 4) dM_source_69 rfl ?_
                refine am_iconst (v := 0) dM_source_71 (by decide) ?_
                refine am_iload_n (i := 2) dM_source_72 rfl rfl ?_
                refine am_iload_n (i := 3) dM_source_73 rfl rfl ?_
                refine am_callV (ac' := 0) (as' := 0) (xs := [_, _, _, _, _, _, _]) dM_source_74 lkM_65 (by first | rfl | exact sk8 (by omega) | exact sk9 (by omega) | exact sk10 (by omega) | exact sk11 (by omega)) rfl rfl rfl rfl (Nat.le_of_ble_eq_true rfl) rfl rfl (cM_add hn hsh hmk (fun c28 => ?_) (fun hlt A1 T S W e1 e2 e3 e4 => ?_))
                · refine am_iret (st := []) rfl rfl dM_source_77 ?_
                  exact kf (by grind) c28
                · refine am_iret (st := []) rfl rfl dM_source_77 ?_
                  exact ka (by grind) hlt _ _ _ _ e1 e2 e3 e4
set_option maxRecDepth 100000 in
set_option maxHeartbeats 4000000 in
theorem cM_mark {g : am_G} {d : Nat} {Q : Option am_V → am_H → Prop} {X : Nat → Nat → Nat → am_V} {A P : Nat → Nat → Int32} {st mk pa ce wd us : Nat → Int32} {si : Int32} {n : Nat} {x o : Int32} (ho : o = 0 ∨ o = 1) (hn : n ≤ 28) (hsh : q_sha n A P) (kr : ¬ q_val x n → Q (some (am_I (-1))) (hm X (ym A P st mk pa ce wd us (nI n) si))) (k : ∀ v T S W, v < n → x = nI v → T = q_cpn n A P → S = q_idn n st → W = q_wd0 n wd → Q (some (am_I 0)) (hm X (ym A T S (upd mk v o) pa ce W us (nI n) 0))) : am_C g mM_mark (d + 1) 0 0 [am_O 20 0, am_I x, am_I o] (hm X (ym A P st mk pa ce wd us (nI n) si)) Q := by
  refine am_enter (lv := [some (am_O 20 0), some (am_I x), some (am_I o)]) rfl rfl (am_cat1 rfl) (Nat.le_of_ble_eq_true rfl) ?_
  refine am_aload_n (i := 0) dM_mark_0 rfl rfl ?_
  refine am_iload_n (i := 1) dM_mark_1 rfl rfl ?_
  refine am_callV (ac' := 0) (as' := 0) (xs := [_]) dM_mark_2 lkM_69 (by first | rfl | exact sk8 (by omega) | exact sk9 (by omega) | exact sk10 (by omega) | exact sk11 (by omega)) rfl rfl rfl rfl (Nat.le_of_ble_eq_true rfl) rfl rfl (cM_no hn (fun nv => ?_) (fun v hv ev => ?_))
  · refine am_if_eq_F (tgt := 10) dM_mark_5 (by decide) (by decide) ?_
    refine am_iconst (v := (-1)) dM_mark_8 (by decide) ?_
    refine am_iret (st := []) rfl rfl dM_mark_9 ?_
    exact kr (by grind)
  · refine am_if_eq_T (tgt := 10) dM_mark_5 (by decide) (by decide) ?_
    refine am_aload_n (i := 0) dM_mark_10 rfl rfl ?_
    refine am_getf dM_mark_11 flM_31 (by first | rfl | exact sk8 (by omega) | exact sk9 (by omega) | exact sk10 (by omega) | exact sk11 (by omega)) rfl ?_
    refine am_iload_n (i := 1) dM_mark_14 rfl rfl ?_
    refine am_iload_n (i := 2) dM_mark_15 rfl rfl ?_
    refine am_zast' dM_mark_16 (by first | rfl | exact sk8 (by omega) | exact sk9 (by omega) | exact sk10 (by omega) | exact sk11 (by omega)) ev (by first | omega | assumption | decide) (by decide) (by decide) (by rcases ho with q | q <;> rw [q] <;> rfl) (by first | exact wm_kd (by omega) | exact wm_kh (by omega) | exact wm_fi (by omega) | exact wm_fh (by omega) | exact wm_se (by omega) | exact wm_sh (by omega) | exact wm_np (by omega) | exact wm_ph (by omega) | exact wm_nq (by omega) | exact wm_qh (by omega) | exact wm_ro | exact wm_co | exact wm_mm | exact wm_sd | exact wm_pa | exact wm_ce | exact wm_wd | exact wm_ud | exact wm_vn | exact wm_sm) ?_
    refine am_aload_n (i := 0) dM_mark_17 rfl rfl ?_
    refine am_callV (ac' := 0) (as' := 0) (xs := []) dM_mark_18 lkM_58 (by first | rfl | exact sk8 (by omega) | exact sk9 (by omega) | exact sk10 (by omega) | exact sk11 (by omega)) rfl rfl rfl rfl (Nat.le_of_ble_eq_true rfl) rfl rfl (cM_restore hn ?_)
    refine am_iconst (v := 0) dM_mark_21 (by decide) ?_
    refine am_iret (st := []) rfl rfl dM_mark_22 ?_
    exact k v _ _ _ hv ev (q_rsn_cpn hsh) rfl rfl
set_option maxRecDepth 100000 in
set_option maxHeartbeats 4000000 in
theorem cM_set {g : am_G} {d : Nat} {Q : Option am_V → am_H → Prop} {X : Nat → Nat → Nat → am_V} {A P : Nat → Nat → Int32} {st mk pa ce wd us : Nat → Int32} {si : Int32} {n : Nat} {p i j x : Int32} (kr : ¬ (¬ p < 0 ∧ ¬ 4 ≤ p ∧ q_plOk i j) → Q (some (am_I (-1))) (hm X (ym A P st mk pa ce wd us (nI n) si))) (k : ∀ p0 i0 j0, p0 < 4 → i0 < 4 → j0 < 4 → p = nI p0 → i = nI i0 → j = nI j0 → Q (some (am_I 0)) (hm X (ym A P st mk (upd pa (p0 * 16 + i0 * 4 + j0) x) ce wd us (nI n) si))) : am_C g mM_set (d + 1) 0 0 [am_O 20 0, am_I p, am_I i, am_I j, am_I x] (hm X (ym A P st mk pa ce wd us (nI n) si)) Q := by
  refine am_enter (lv := [some (am_O 20 0), some (am_I p), some (am_I i), some (am_I j), some (am_I x)]) rfl rfl (am_cat1 rfl) (Nat.le_of_ble_eq_true rfl) ?_
  refine am_aload_n (i := 0) dM_set_0 rfl rfl ?_
  refine am_iload_n (i := 1) dM_set_1 rfl rfl ?_
  refine am_iconst (v := 0) dM_set_2 (by decide) ?_
  refine am_iconst (v := 3) dM_set_3 (by decide) ?_
  refine am_callV (ac' := 0) (as' := 0) (xs := [_, _, _]) dM_set_4 lkM_61 (by first | rfl | exact sk8 (by omega) | exact sk9 (by omega) | exact sk10 (by omega) | exact sk11 (by omega)) rfl rfl rfl rfl (Nat.le_of_ble_eq_true rfl) rfl rfl (cM_off (fun o4 => ?_) (fun o4 => ?_))
  · refine am_if_ne_T (tgt := 30) dM_set_7 (by decide) (by decide) ?_
    refine am_iconst (v := (-1)) dM_set_30 (by decide) ?_
    refine am_iret (st := []) rfl rfl dM_set_31 ?_
    exact kr (by grind)
  · refine am_if_ne_F (tgt := 30) dM_set_7 (by decide) (by decide) ?_
    refine am_aload_n (i := 0) dM_set_10 rfl rfl ?_
    refine am_iload_n (i := 2) dM_set_11 rfl rfl ?_
    refine am_iconst (v := 0) dM_set_12 (by decide) ?_
    refine am_iconst (v := 3) dM_set_13 (by decide) ?_
    refine am_callV (ac' := 0) (as' := 0) (xs := [_, _, _]) dM_set_14 lkM_61 (by first | rfl | exact sk8 (by omega) | exact sk9 (by omega) | exact sk10 (by omega) | exact sk11 (by omega)) rfl rfl rfl rfl (Nat.le_of_ble_eq_true rfl) rfl rfl (cM_off (fun o14 => ?_) (fun o14 => ?_))
    · refine am_if_ne_T (tgt := 30) dM_set_17 (by decide) (by decide) ?_
      refine am_iconst (v := (-1)) dM_set_30 (by decide) ?_
      refine am_iret (st := []) rfl rfl dM_set_31 ?_
      exact kr (by grind)
    · refine am_if_ne_F (tgt := 30) dM_set_17 (by decide) (by decide) ?_
      refine am_aload_n (i := 0) dM_set_20 rfl rfl ?_
      refine am_iload_n (i := 3) dM_set_21 rfl rfl ?_
      refine am_iconst (v := 0) dM_set_22 (by decide) ?_
      refine am_iconst (v := 3) dM_set_23 (by decide) ?_
      refine am_callV (ac' := 0) (as' := 0) (xs := [_, _, _]) dM_set_24 lkM_61 (by first | rfl | exact sk8 (by omega) | exact sk9 (by omega) | exact sk10 (by omega) | exact sk11 (by omega)) rfl rfl rfl rfl (Nat.le_of_ble_eq_true rfl) rfl rfl (cM_off (fun o24 => ?_) (fun o24 => ?_))
      · refine am_if_eq_F (tgt := 32) dM_set_27 (by decide) (by decide) ?_
        refine am_iconst (v := (-1)) dM_set_30 (by decide) ?_
        refine am_iret (st := []) rfl rfl dM_set_31 ?_
        exact kr (by grind)
      · refine am_if_eq_T (tgt := 32) dM_set_27 (by decide) (by decide) ?_
        obtain ⟨p0, hp0, ep0⟩ := q_ix4 (x := p) (by grind) (by grind)
        obtain ⟨i0, hi0, ei0⟩ := q_ix4 (x := i) (by grind) (by grind)
        obtain ⟨j0, hj0, ej0⟩ := q_ix4 (x := j) (by grind) (by grind)
        refine am_aload_n (i := 0) dM_set_32 rfl rfl ?_
        refine am_getf dM_set_33 flM_38 (by first | rfl | exact sk8 (by omega) | exact sk9 (by omega) | exact sk10 (by omega) | exact sk11 (by omega)) rfl ?_
        refine am_iload_n (i := 1) dM_set_36 rfl rfl ?_
        refine am_bipush (v := 16) dM_set_37 (by decide) ?_
        refine am_imul dM_set_39 ?_
        refine am_iload_n (i := 2) dM_set_40 rfl rfl ?_
        refine am_iconst (v := 4) dM_set_41 (by decide) ?_
        refine am_imul dM_set_42 ?_
        refine am_iadd dM_set_43 ?_
        refine am_iload_n (i := 3) dM_set_44 rfl rfl ?_
        refine am_iadd dM_set_45 ?_
        refine am_iload (i := 4) dM_set_46 rfl ?_
        refine am_iast' dM_set_48 (by first | rfl | exact sk8 (by omega) | exact sk9 (by omega) | exact sk10 (by omega) | exact sk11 (by omega)) (show p * 16 + i * 4 + j = nI (p0 * 16 + i0 * 4 + j0) by rw [ep0, ei0, ej0, ← nI_add, ← nI_add, ← pk_mul, ← pk_mul]; rfl) (by first | omega | assumption | decide) (by decide) (by decide) (by first | exact wm_kd (by omega) | exact wm_kh (by omega) | exact wm_fi (by omega) | exact wm_fh (by omega) | exact wm_se (by omega) | exact wm_sh (by omega) | exact wm_np (by omega) | exact wm_ph (by omega) | exact wm_nq (by omega) | exact wm_qh (by omega) | exact wm_ro | exact wm_co | exact wm_mm | exact wm_sd | exact wm_pa | exact wm_ce | exact wm_wd | exact wm_ud | exact wm_vn | exact wm_sm) ?_
        refine am_iconst (v := 0) dM_set_49 (by decide) ?_
        refine am_iret (st := []) rfl rfl dM_set_50 ?_
        exact k p0 i0 j0 hp0 hi0 hj0 ep0 ei0 ej0
set_option maxRecDepth 100000 in
set_option maxHeartbeats 4000000 in
theorem cM_standIn {g : am_G} {d : Nat} {Q : Option am_V → am_H → Prop} {X : Nat → Nat → Nat → am_V} {A P : Nat → Nat → Int32} {st mk pa ce wd us : Nat → Int32} {si : Int32} {n : Nat} {x : Int32} (hn : n ≤ 28) (kr : ¬ q_val x n → Q (some (am_I (-1))) (hm X (ym A P st mk pa ce wd us (nI n) si))) (k : ∀ v, v < n → x = nI v → Q (some (am_I (st v))) (hm X (ym A P st mk pa ce wd us (nI n) si))) : am_C g mM_standIn (d + 1) 0 0 [am_O 20 0, am_I x] (hm X (ym A P st mk pa ce wd us (nI n) si)) Q := by
  refine am_enter (lv := [some (am_O 20 0), some (am_I x)]) rfl rfl (am_cat1 rfl) (Nat.le_of_ble_eq_true rfl) ?_
  refine am_aload_n (i := 0) dM_standIn_0 rfl rfl ?_
  refine am_iload_n (i := 1) dM_standIn_1 rfl rfl ?_
  refine am_callV (ac' := 0) (as' := 0) (xs := [_]) dM_standIn_2 lkM_69 (by first | rfl | exact sk8 (by omega) | exact sk9 (by omega) | exact sk10 (by omega) | exact sk11 (by omega)) rfl rfl rfl rfl (Nat.le_of_ble_eq_true rfl) rfl rfl (cM_no hn (fun nv => ?_) (fun v hv ev => ?_))
  · refine am_if_eq_F (tgt := 12) dM_standIn_5 (by decide) (by decide) ?_
    refine am_iconst (v := (-1)) dM_standIn_8 (by decide) ?_
    refine am_goto (tgt := 18) dM_standIn_9 (by decide) ?_
    refine am_iret (st := []) rfl rfl dM_standIn_18 ?_
    exact kr (by grind)
  · refine am_if_eq_T (tgt := 12) dM_standIn_5 (by decide) (by decide) ?_
    refine am_aload_n (i := 0) dM_standIn_12 rfl rfl ?_
    refine am_getf dM_standIn_13 flM_35 (by first | rfl | exact sk8 (by omega) | exact sk9 (by omega) | exact sk10 (by omega) | exact sk11 (by omega)) rfl ?_
    refine am_iload_n (i := 1) dM_standIn_16 rfl rfl ?_
    refine am_iald dM_standIn_17 (by first | rfl | exact sk8 (by omega) | exact sk9 (by omega) | exact sk10 (by omega) | exact sk11 (by omega)) ev (by first | omega | assumption | decide) (by decide) (by decide) (by first | exact congrArg am_I (mkd_lo (by omega)) | exact congrArg am_I (mkd_hi (by omega)) | rfl) ?_
    refine am_iret (st := []) rfl rfl dM_standIn_18 ?_
    exact k v hv ev
set_option maxRecDepth 100000 in
set_option maxHeartbeats 4000000 in
theorem cM_reshape {g : am_G} {d : Nat} {Q : Option am_V → am_H → Prop} {X : Nat → Nat → Nat → am_V} {A P : Nat → Nat → Int32} {st mk pa ce wd us : Nat → Int32} {si : Int32} {n : Nat} {κ xa x y : Int32} (hn : n ≤ 28) (hsh : q_sha n A P) (hmk : mk n = 0) (kr : ¬ q_reOk n κ xa x y → Q (some (am_I (-1))) (hm X (ym A P st mk pa ce wd us (nI n) si))) (ks : ∀ a, a < n → xa = nI a → q_reOk n κ xa x y → ¬ q_reFit A κ x y a → Q (some (am_I (-3))) (hm X (ym A P st mk pa ce wd us (nI n) si))) (kf : ∀ a, a < n → xa = nI a → q_reOk n κ xa x y → q_reFit A κ x y a → n = 28 → Q (some (am_I (-2))) (hm X (ym A P st mk pa ce wd us (nI n) si))) (ka : ∀ a, a < n → xa = nI a → q_reOk n κ xa x y → q_reFit A κ x y a → n < 28 → ∀ A1 T S W, A1 = q_new A n κ xa (-1) 0 0 x y → T = q_cpn (n + 1) A1 P → S = q_idn (n + 1) st → W = q_wd0 (n + 1) wd → Q (some (am_I (nI n))) (hm X (ym A1 T S mk pa ce W us (nI (n + 1)) 0))) : am_C g mM_reshape (d + 2) 0 0 [am_O 20 0, am_I κ, am_I xa, am_I x, am_I y] (hm X (ym A P st mk pa ce wd us (nI n) si)) Q := by
  refine am_enter (lv := [some (am_O 20 0), some (am_I κ), some (am_I xa), some (am_I x), some (am_I y), none, none]) rfl rfl (am_cat1 rfl) (Nat.le_of_ble_eq_true rfl) ?_
  refine am_aload_n (i := 0) dM_reshape_0 rfl rfl ?_
  refine am_iload_n (i := 1) dM_reshape_1 rfl rfl ?_
  refine am_bipush (v := 10) dM_reshape_2 (by decide) ?_
  refine am_bipush (v := 11) dM_reshape_4 (by decide) ?_
  refine am_callV (ac' := 0) (as' := 0) (xs := [_, _, _]) dM_reshape_6 lkM_61 (by first | rfl | exact sk8 (by omega) | exact sk9 (by omega) | exact sk10 (by omega) | exact sk11 (by omega)) rfl rfl rfl rfl (Nat.le_of_ble_eq_true rfl) rfl rfl (cM_off (fun o6 => ?_) (fun o6 => ?_))
  · refine am_if_ne_T (tgt := 41) dM_reshape_9 (by decide) (by decide) ?_
    refine am_iconst (v := (-1)) dM_reshape_41 (by decide) ?_
    refine am_iret (st := []) rfl rfl dM_reshape_42 ?_
    exact kr (by grind)
  · refine am_if_ne_F (tgt := 41) dM_reshape_9 (by decide) (by decide) ?_
    refine am_aload_n (i := 0) dM_reshape_12 rfl rfl ?_
    refine am_iload_n (i := 2) dM_reshape_13 rfl rfl ?_
    refine am_callV (ac' := 0) (as' := 0) (xs := [_]) dM_reshape_14 lkM_69 (by first | rfl | exact sk8 (by omega) | exact sk9 (by omega) | exact sk10 (by omega) | exact sk11 (by omega)) rfl rfl rfl rfl (Nat.le_of_ble_eq_true rfl) rfl rfl (cM_no hn (fun na => ?_) (fun a ha ea => ?_))
    · refine am_if_ne_T (tgt := 41) dM_reshape_17 (by decide) (by decide) ?_
      refine am_iconst (v := (-1)) dM_reshape_41 (by decide) ?_
      refine am_iret (st := []) rfl rfl dM_reshape_42 ?_
      exact kr (by grind)
    · refine am_if_ne_F (tgt := 41) dM_reshape_17 (by decide) (by decide) ?_
      refine am_aload_n (i := 0) dM_reshape_20 rfl rfl ?_
      refine am_iload_n (i := 3) dM_reshape_21 rfl rfl ?_
      refine am_iconst (v := 1) dM_reshape_22 (by decide) ?_
      refine am_iconst (v := 4) dM_reshape_23 (by decide) ?_
      refine am_callV (ac' := 0) (as' := 0) (xs := [_, _, _]) dM_reshape_24 lkM_61 (by first | rfl | exact sk8 (by omega) | exact sk9 (by omega) | exact sk10 (by omega) | exact sk11 (by omega)) rfl rfl rfl rfl (Nat.le_of_ble_eq_true rfl) rfl rfl (cM_off (fun o24 => ?_) (fun o24 => ?_))
      · refine am_if_ne_T (tgt := 41) dM_reshape_27 (by decide) (by decide) ?_
        refine am_iconst (v := (-1)) dM_reshape_41 (by decide) ?_
        refine am_iret (st := []) rfl rfl dM_reshape_42 ?_
        exact kr (by grind)
      · refine am_if_ne_F (tgt := 41) dM_reshape_27 (by decide) (by decide) ?_
        refine am_aload_n (i := 0) dM_reshape_30 rfl rfl ?_
        refine am_iload (i := 4) dM_reshape_31 rfl ?_
        refine am_iconst (v := 1) dM_reshape_33 (by decide) ?_
        refine am_iconst (v := 4) dM_reshape_34 (by decide) ?_
        refine am_callV (ac' := 0) (as' := 0) (xs := [_, _, _]) dM_reshape_35 lkM_61 (by first | rfl | exact sk8 (by omega) | exact sk9 (by omega) | exact sk10 (by omega) | exact sk11 (by omega)) rfl rfl rfl rfl (Nat.le_of_ble_eq_true rfl) rfl rfl (cM_off (fun o35 => ?_) (fun o35 => ?_))
        · refine am_if_eq_F (tgt := 43) dM_reshape_38 (by decide) (by decide) ?_
          refine am_iconst (v := (-1)) dM_reshape_41 (by decide) ?_
          refine am_iret (st := []) rfl rfl dM_reshape_42 ?_
          exact kr (by grind)
        · refine am_if_eq_T (tgt := 43) dM_reshape_38 (by decide) (by decide) ?_
          obtain ⟨z1, z2⟩ := hsh a ha
          have hok : q_reOk n κ xa x y := ⟨by grind, by grind, ea ▸ q_val_of ha hn, by grind, by grind, by grind, by grind⟩
          refine am_aload_n (i := 0) dM_reshape_43 rfl rfl ?_
          refine am_getf dM_reshape_44 flM_25 (by first | rfl | exact sk8 (by omega) | exact sk9 (by omega) | exact sk10 (by omega) | exact sk11 (by omega)) rfl ?_
          refine am_iload_n (i := 2) dM_reshape_47 rfl rfl ?_
          refine am_iald dM_reshape_48 (by first | rfl | exact sk8 (by omega) | exact sk9 (by omega) | exact sk10 (by omega) | exact sk11 (by omega)) ea (by first | omega | assumption | decide) (by decide) (by decide) (by first | exact congrArg am_I (mkd_lo (by omega)) | exact congrArg am_I (mkd_hi (by omega)) | rfl) ?_
          refine am_istore (i := 5) dM_reshape_49 (by decide) ?_
          refine am_aload_n (i := 0) dM_reshape_51 rfl rfl ?_
          refine am_getf dM_reshape_52 flM_28 (by first | rfl | exact sk8 (by omega) | exact sk9 (by omega) | exact sk10 (by omega) | exact sk11 (by omega)) rfl ?_
          refine am_iload_n (i := 2) dM_reshape_55 rfl rfl ?_
          refine am_iald dM_reshape_56 (by first | rfl | exact sk8 (by omega) | exact sk9 (by omega) | exact sk10 (by omega) | exact sk11 (by omega)) ea (by first | omega | assumption | decide) (by decide) (by decide) (by first | exact congrArg am_I (mkd_lo (by omega)) | exact congrArg am_I (mkd_hi (by omega)) | rfl) ?_
          refine am_istore (i := 6) dM_reshape_57 (by decide) ?_
          refine am_iload_n (i := 1) dM_reshape_59 rfl rfl ?_
          refine am_bipush (v := 10) dM_reshape_60 (by decide) ?_
          refine am_icmp_ne (tgt := 93) dM_reshape_62 (by decide) (fun c62 => ?_) (fun c62 => ?_)
          · refine am_iload (i := 5) dM_reshape_93 rfl ?_
            refine am_iload (i := 6) dM_reshape_95 rfl ?_
            refine am_imul dM_reshape_97 ?_
            refine am_iload_n (i := 3) dM_reshape_98 rfl rfl ?_
            refine am_iload (i := 4) dM_reshape_99 rfl ?_
            refine am_imul dM_reshape_101 ?_
            refine am_icmp_eq (tgt := 108) dM_reshape_102 (by decide) (fun c102 => ?_) (fun c102 => ?_)
            · refine am_aload_n (i := 0) dM_reshape_108 rfl rfl ?_
              refine am_iload_n (i := 1) dM_reshape_109 rfl rfl ?_
              refine am_iload_n (i := 2) dM_reshape_110 rfl rfl ?_
              refine am_iconst (v := (-1)) dM_reshape_111 (by decide) ?_
              refine am_iconst (v := 0) dM_reshape_112 (by decide) ?_
              refine am_iconst (v := 0) dM_reshape_113 (by decide) ?_
              refine am_iload_n (i := 3) dM_reshape_114 rfl rfl ?_
              refine am_iload (i := 4) dM_reshape_115 rfl ?_
              refine am_callV (ac' := 0) (as' := 0) (xs := [_, _, _, _, _, _, _]) dM_reshape_117 lkM_65 (by first | rfl | exact sk8 (by omega) | exact sk9 (by omega) | exact sk10 (by omega) | exact sk11 (by omega)) rfl rfl rfl rfl (Nat.le_of_ble_eq_true rfl) rfl rfl (cM_add hn hsh hmk (fun c28 => ?_) (fun hlt A1 T S W e1 e2 e3 e4 => ?_))
              · refine am_iret (st := []) rfl rfl dM_reshape_120 ?_
                exact kf a ha ea hok (by unfold q_reFit; rw [← z1, ← z2]; grind) c28
              · refine am_iret (st := []) rfl rfl dM_reshape_120 ?_
                exact ka a ha ea hok (by unfold q_reFit; rw [← z1, ← z2]; grind) hlt _ _ _ _ e1 e2 e3 e4
            · refine am_bipush (v := (-3)) dM_reshape_105 (by decide) ?_
              refine am_iret (st := []) rfl rfl dM_reshape_107 ?_
              exact ks a ha ea hok (by unfold q_reFit; rw [← z1, ← z2]; grind)
          · refine am_iload (i := 5) dM_reshape_65 rfl ?_
            refine am_iconst (v := 1) dM_reshape_67 (by decide) ?_
            refine am_icmp_eq (tgt := 77) dM_reshape_68 (by decide) (fun c68 => ?_) (fun c68 => ?_)
            · refine am_iload (i := 6) dM_reshape_77 rfl ?_
              refine am_iconst (v := 1) dM_reshape_79 (by decide) ?_
              refine am_icmp_eq (tgt := 108) dM_reshape_80 (by decide) (fun c80 => ?_) (fun c80 => ?_)
              · refine am_aload_n (i := 0) dM_reshape_108 rfl rfl ?_
                refine am_iload_n (i := 1) dM_reshape_109 rfl rfl ?_
                refine am_iload_n (i := 2) dM_reshape_110 rfl rfl ?_
                refine am_iconst (v := (-1)) dM_reshape_111 (by decide) ?_
                refine am_iconst (v := 0) dM_reshape_112 (by decide) ?_
                refine am_iconst (v := 0) dM_reshape_113 (by decide) ?_
                refine am_iload_n (i := 3) dM_reshape_114 rfl rfl ?_
                refine am_iload (i := 4) dM_reshape_115 rfl ?_
                refine am_callV (ac' := 0) (as' := 0) (xs := [_, _, _, _, _, _, _]) dM_reshape_117 lkM_65 (by first | rfl | exact sk8 (by omega) | exact sk9 (by omega) | exact sk10 (by omega) | exact sk11 (by omega)) rfl rfl rfl rfl (Nat.le_of_ble_eq_true rfl) rfl rfl (cM_add hn hsh hmk (fun c28 => ?_) (fun hlt A1 T S W e1 e2 e3 e4 => ?_))
                · refine am_iret (st := []) rfl rfl dM_reshape_120 ?_
                  exact kf a ha ea hok (by unfold q_reFit; rw [← z1, ← z2]; grind) c28
                · refine am_iret (st := []) rfl rfl dM_reshape_120 ?_
                  exact ka a ha ea hok (by unfold q_reFit; rw [← z1, ← z2]; grind) hlt _ _ _ _ e1 e2 e3 e4
              · refine am_iload (i := 6) dM_reshape_83 rfl ?_
                refine am_iload (i := 4) dM_reshape_85 rfl ?_
                refine am_icmp_eq (tgt := 108) dM_reshape_87 (by decide) (fun c87 => ?_) (fun c87 => ?_)
                · refine am_aload_n (i := 0) dM_reshape_108 rfl rfl ?_
                  refine am_iload_n (i := 1) dM_reshape_109 rfl rfl ?_
                  refine am_iload_n (i := 2) dM_reshape_110 rfl rfl ?_
                  refine am_iconst (v := (-1)) dM_reshape_111 (by decide) ?_
                  refine am_iconst (v := 0) dM_reshape_112 (by decide) ?_
                  refine am_iconst (v := 0) dM_reshape_113 (by decide) ?_
                  refine am_iload_n (i := 3) dM_reshape_114 rfl rfl ?_
                  refine am_iload (i := 4) dM_reshape_115 rfl ?_
                  refine am_callV (ac' := 0) (as' := 0) (xs := [_, _, _, _, _, _, _]) dM_reshape_117 lkM_65 (by first | rfl | exact sk8 (by omega) | exact sk9 (by omega) | exact sk10 (by omega) | exact sk11 (by omega)) rfl rfl rfl rfl (Nat.le_of_ble_eq_true rfl) rfl rfl (cM_add hn hsh hmk (fun c28 => ?_) (fun hlt A1 T S W e1 e2 e3 e4 => ?_))
                  · refine am_iret (st := []) rfl rfl dM_reshape_120 ?_
                    exact kf a ha ea hok (by unfold q_reFit; rw [← z1, ← z2]; grind) c28
                  · refine am_iret (st := []) rfl rfl dM_reshape_120 ?_
                    exact ka a ha ea hok (by unfold q_reFit; rw [← z1, ← z2]; grind) hlt _ _ _ _ e1 e2 e3 e4
                · refine am_goto (tgt := 105) dM_reshape_90 (by decide) ?_
                  refine am_bipush (v := (-3)) dM_reshape_105 (by decide) ?_
                  refine am_iret (st := []) rfl rfl dM_reshape_107 ?_
                  exact ks a ha ea hok (by unfold q_reFit; rw [← z1, ← z2]; grind)
            · refine am_iload (i := 5) dM_reshape_71 rfl ?_
              refine am_iload_n (i := 3) dM_reshape_73 rfl rfl ?_
              refine am_icmp_ne (tgt := 105) dM_reshape_74 (by decide) (fun c74 => ?_) (fun c74 => ?_)
              · refine am_bipush (v := (-3)) dM_reshape_105 (by decide) ?_
                refine am_iret (st := []) rfl rfl dM_reshape_107 ?_
                exact ks a ha ea hok (by unfold q_reFit; rw [← z1, ← z2]; grind)
              · refine am_iload (i := 6) dM_reshape_77 rfl ?_
                refine am_iconst (v := 1) dM_reshape_79 (by decide) ?_
                refine am_icmp_eq (tgt := 108) dM_reshape_80 (by decide) (fun c80 => ?_) (fun c80 => ?_)
                · refine am_aload_n (i := 0) dM_reshape_108 rfl rfl ?_
                  refine am_iload_n (i := 1) dM_reshape_109 rfl rfl ?_
                  refine am_iload_n (i := 2) dM_reshape_110 rfl rfl ?_
                  refine am_iconst (v := (-1)) dM_reshape_111 (by decide) ?_
                  refine am_iconst (v := 0) dM_reshape_112 (by decide) ?_
                  refine am_iconst (v := 0) dM_reshape_113 (by decide) ?_
                  refine am_iload_n (i := 3) dM_reshape_114 rfl rfl ?_
                  refine am_iload (i := 4) dM_reshape_115 rfl ?_
                  refine am_callV (ac' := 0) (as' := 0) (xs := [_, _, _, _, _, _, _]) dM_reshape_117 lkM_65 (by first | rfl | exact sk8 (by omega) | exact sk9 (by omega) | exact sk10 (by omega) | exact sk11 (by omega)) rfl rfl rfl rfl (Nat.le_of_ble_eq_true rfl) rfl rfl (cM_add hn hsh hmk (fun c28 => ?_) (fun hlt A1 T S W e1 e2 e3 e4 => ?_))
                  · refine am_iret (st := []) rfl rfl dM_reshape_120 ?_
                    exact kf a ha ea hok (by unfold q_reFit; rw [← z1, ← z2]; grind) c28
                  · refine am_iret (st := []) rfl rfl dM_reshape_120 ?_
                    exact ka a ha ea hok (by unfold q_reFit; rw [← z1, ← z2]; grind) hlt _ _ _ _ e1 e2 e3 e4
                · refine am_iload (i := 6) dM_reshape_83 rfl ?_
                  refine am_iload (i := 4) dM_reshape_85 rfl ?_
                  refine am_icmp_eq (tgt := 108) dM_reshape_87 (by decide) (fun c87 => ?_) (fun c87 => ?_)
                  · refine am_aload_n (i := 0) dM_reshape_108 rfl rfl ?_
                    refine am_iload_n (i := 1) dM_reshape_109 rfl rfl ?_
                    refine am_iload_n (i := 2) dM_reshape_110 rfl rfl ?_
                    refine am_iconst (v := (-1)) dM_reshape_111 (by decide) ?_
                    refine am_iconst (v := 0) dM_reshape_112 (by decide) ?_
                    refine am_iconst (v := 0) dM_reshape_113 (by decide) ?_
                    refine am_iload_n (i := 3) dM_reshape_114 rfl rfl ?_
                    refine am_iload (i := 4) dM_reshape_115 rfl ?_
                    refine am_callV (ac' := 0) (as' := 0) (xs := [_, _, _, _, _, _, _]) dM_reshape_117 lkM_65 (by first | rfl | exact sk8 (by omega) | exact sk9 (by omega) | exact sk10 (by omega) | exact sk11 (by omega)) rfl rfl rfl rfl (Nat.le_of_ble_eq_true rfl) rfl rfl (cM_add hn hsh hmk (fun c28 => ?_) (fun hlt A1 T S W e1 e2 e3 e4 => ?_))
                    · refine am_iret (st := []) rfl rfl dM_reshape_120 ?_
                      exact kf a ha ea hok (by unfold q_reFit; rw [← z1, ← z2]; grind) c28
                    · refine am_iret (st := []) rfl rfl dM_reshape_120 ?_
                      exact ka a ha ea hok (by unfold q_reFit; rw [← z1, ← z2]; grind) hlt _ _ _ _ e1 e2 e3 e4
                  · refine am_goto (tgt := 105) dM_reshape_90 (by decide) ?_
                    refine am_bipush (v := (-3)) dM_reshape_105 (by decide) ?_
                    refine am_iret (st := []) rfl rfl dM_reshape_107 ?_
                    exact ks a ha ea hok (by unfold q_reFit; rw [← z1, ← z2]; grind)
set_option maxRecDepth 100000 in
set_option maxHeartbeats 4000000 in
theorem cM_part {g : am_G} {d : Nat} {Q : Option am_V → am_H → Prop} {X : Nat → Nat → Nat → am_V} {A P : Nat → Nat → Int32} {st mk pa ce wd us : Nat → Int32} {si : Int32} {n : Nat} {xa p q x y : Int32} (hn : n ≤ 28) (hsh : q_sha n A P) (hmk : mk n = 0) (kr : ¬ q_paOk n xa p q x y → Q (some (am_I (-1))) (hm X (ym A P st mk pa ce wd us (nI n) si))) (ks : ∀ a, a < n → xa = nI a → q_paOk n xa p q x y → ¬ q_paFit A p q x y a → Q (some (am_I (-3))) (hm X (ym A P st mk pa ce wd us (nI n) si))) (kf : ∀ a, a < n → xa = nI a → q_paOk n xa p q x y → q_paFit A p q x y a → n = 28 → Q (some (am_I (-2))) (hm X (ym A P st mk pa ce wd us (nI n) si))) (ka : ∀ a, a < n → xa = nI a → q_paOk n xa p q x y → q_paFit A p q x y a → n < 28 → ∀ A1 T S W, A1 = q_new A n 12 xa (-1) p q x y → T = q_cpn (n + 1) A1 P → S = q_idn (n + 1) st → W = q_wd0 (n + 1) wd → Q (some (am_I (nI n))) (hm X (ym A1 T S mk pa ce W us (nI (n + 1)) 0))) : am_C g mM_part (d + 2) 0 0 [am_O 20 0, am_I xa, am_I p, am_I q, am_I x, am_I y] (hm X (ym A P st mk pa ce wd us (nI n) si)) Q := by
  refine am_enter (lv := [some (am_O 20 0), some (am_I xa), some (am_I p), some (am_I q), some (am_I x), some (am_I y)]) rfl rfl (am_cat1 rfl) (Nat.le_of_ble_eq_true rfl) ?_
  refine am_aload_n (i := 0) dM_part_0 rfl rfl ?_
  refine am_iload_n (i := 1) dM_part_1 rfl rfl ?_
  refine am_callV (ac' := 0) (as' := 0) (xs := [_]) dM_part_2 lkM_69 (by first | rfl | exact sk8 (by omega) | exact sk9 (by omega) | exact sk10 (by omega) | exact sk11 (by omega)) rfl rfl rfl rfl (Nat.le_of_ble_eq_true rfl) rfl rfl (cM_no hn (fun na => ?_) (fun a ha ea => ?_))
  · refine am_if_ne_T (tgt := 50) dM_part_5 (by decide) (by decide) ?_
    refine am_iconst (v := (-1)) dM_part_50 (by decide) ?_
    refine am_iret (st := []) rfl rfl dM_part_51 ?_
    exact kr (by grind)
  · refine am_if_ne_F (tgt := 50) dM_part_5 (by decide) (by decide) ?_
    refine am_aload_n (i := 0) dM_part_8 rfl rfl ?_
    refine am_iload_n (i := 2) dM_part_9 rfl rfl ?_
    refine am_iconst (v := 0) dM_part_10 (by decide) ?_
    refine am_iconst (v := 3) dM_part_11 (by decide) ?_
    refine am_callV (ac' := 0) (as' := 0) (xs := [_, _, _]) dM_part_12 lkM_61 (by first | rfl | exact sk8 (by omega) | exact sk9 (by omega) | exact sk10 (by omega) | exact sk11 (by omega)) rfl rfl rfl rfl (Nat.le_of_ble_eq_true rfl) rfl rfl (cM_off (fun o12 => ?_) (fun o12 => ?_))
    · refine am_if_ne_T (tgt := 50) dM_part_15 (by decide) (by decide) ?_
      refine am_iconst (v := (-1)) dM_part_50 (by decide) ?_
      refine am_iret (st := []) rfl rfl dM_part_51 ?_
      exact kr (by grind)
    · refine am_if_ne_F (tgt := 50) dM_part_15 (by decide) (by decide) ?_
      refine am_aload_n (i := 0) dM_part_18 rfl rfl ?_
      refine am_iload_n (i := 3) dM_part_19 rfl rfl ?_
      refine am_iconst (v := 0) dM_part_20 (by decide) ?_
      refine am_iconst (v := 3) dM_part_21 (by decide) ?_
      refine am_callV (ac' := 0) (as' := 0) (xs := [_, _, _]) dM_part_22 lkM_61 (by first | rfl | exact sk8 (by omega) | exact sk9 (by omega) | exact sk10 (by omega) | exact sk11 (by omega)) rfl rfl rfl rfl (Nat.le_of_ble_eq_true rfl) rfl rfl (cM_off (fun o22 => ?_) (fun o22 => ?_))
      · refine am_if_ne_T (tgt := 50) dM_part_25 (by decide) (by decide) ?_
        refine am_iconst (v := (-1)) dM_part_50 (by decide) ?_
        refine am_iret (st := []) rfl rfl dM_part_51 ?_
        exact kr (by grind)
      · refine am_if_ne_F (tgt := 50) dM_part_25 (by decide) (by decide) ?_
        refine am_aload_n (i := 0) dM_part_28 rfl rfl ?_
        refine am_iload (i := 4) dM_part_29 rfl ?_
        refine am_iconst (v := 1) dM_part_31 (by decide) ?_
        refine am_iconst (v := 4) dM_part_32 (by decide) ?_
        refine am_callV (ac' := 0) (as' := 0) (xs := [_, _, _]) dM_part_33 lkM_61 (by first | rfl | exact sk8 (by omega) | exact sk9 (by omega) | exact sk10 (by omega) | exact sk11 (by omega)) rfl rfl rfl rfl (Nat.le_of_ble_eq_true rfl) rfl rfl (cM_off (fun o33 => ?_) (fun o33 => ?_))
        · refine am_if_ne_T (tgt := 50) dM_part_36 (by decide) (by decide) ?_
          refine am_iconst (v := (-1)) dM_part_50 (by decide) ?_
          refine am_iret (st := []) rfl rfl dM_part_51 ?_
          exact kr (by grind)
        · refine am_if_ne_F (tgt := 50) dM_part_36 (by decide) (by decide) ?_
          refine am_aload_n (i := 0) dM_part_39 rfl rfl ?_
          refine am_iload (i := 5) dM_part_40 rfl ?_
          refine am_iconst (v := 1) dM_part_42 (by decide) ?_
          refine am_iconst (v := 4) dM_part_43 (by decide) ?_
          refine am_callV (ac' := 0) (as' := 0) (xs := [_, _, _]) dM_part_44 lkM_61 (by first | rfl | exact sk8 (by omega) | exact sk9 (by omega) | exact sk10 (by omega) | exact sk11 (by omega)) rfl rfl rfl rfl (Nat.le_of_ble_eq_true rfl) rfl rfl (cM_off (fun o44 => ?_) (fun o44 => ?_))
          · refine am_if_eq_F (tgt := 52) dM_part_47 (by decide) (by decide) ?_
            refine am_iconst (v := (-1)) dM_part_50 (by decide) ?_
            refine am_iret (st := []) rfl rfl dM_part_51 ?_
            exact kr (by grind)
          · refine am_if_eq_T (tgt := 52) dM_part_47 (by decide) (by decide) ?_
            obtain ⟨z1, z2⟩ := hsh a ha
            have hok : q_paOk n xa p q x y := ⟨ea ▸ q_val_of ha hn, ⟨by grind, by grind, by grind, by grind⟩, by grind, by grind, by grind, by grind⟩
            refine am_iload_n (i := 2) dM_part_52 rfl rfl ?_
            refine am_iload (i := 4) dM_part_53 rfl ?_
            refine am_iadd dM_part_55 ?_
            refine am_aload_n (i := 0) dM_part_56 rfl rfl ?_
            refine am_getf dM_part_57 flM_25 (by first | rfl | exact sk8 (by omega) | exact sk9 (by omega) | exact sk10 (by omega) | exact sk11 (by omega)) rfl ?_
            refine am_iload_n (i := 1) dM_part_60 rfl rfl ?_
            refine am_iald dM_part_61 (by first | rfl | exact sk8 (by omega) | exact sk9 (by omega) | exact sk10 (by omega) | exact sk11 (by omega)) ea (by first | omega | assumption | decide) (by decide) (by decide) (by first | exact congrArg am_I (mkd_lo (by omega)) | exact congrArg am_I (mkd_hi (by omega)) | rfl) ?_
            refine am_icmp_gt (tgt := 78) dM_part_62 (by decide) (fun c62 => ?_) (fun c62 => ?_)
            · refine am_bipush (v := (-3)) dM_part_78 (by decide) ?_
              refine am_iret (st := []) rfl rfl dM_part_80 ?_
              exact ks a ha ea hok (by unfold q_paFit; rw [← z1, ← z2]; grind)
            · refine am_iload_n (i := 3) dM_part_65 rfl rfl ?_
              refine am_iload (i := 5) dM_part_66 rfl ?_
              refine am_iadd dM_part_68 ?_
              refine am_aload_n (i := 0) dM_part_69 rfl rfl ?_
              refine am_getf dM_part_70 flM_28 (by first | rfl | exact sk8 (by omega) | exact sk9 (by omega) | exact sk10 (by omega) | exact sk11 (by omega)) rfl ?_
              refine am_iload_n (i := 1) dM_part_73 rfl rfl ?_
              refine am_iald dM_part_74 (by first | rfl | exact sk8 (by omega) | exact sk9 (by omega) | exact sk10 (by omega) | exact sk11 (by omega)) ea (by first | omega | assumption | decide) (by decide) (by decide) (by first | exact congrArg am_I (mkd_lo (by omega)) | exact congrArg am_I (mkd_hi (by omega)) | rfl) ?_
              refine am_icmp_le (tgt := 81) dM_part_75 (by decide) (fun c75 => ?_) (fun c75 => ?_)
              · refine am_aload_n (i := 0) dM_part_81 rfl rfl ?_
                refine am_bipush (v := 12) dM_part_82 (by decide) ?_
                refine am_iload_n (i := 1) dM_part_84 rfl rfl ?_
                refine am_iconst (v := (-1)) dM_part_85 (by decide) ?_
                refine am_iload_n (i := 2) dM_part_86 rfl rfl ?_
                refine am_iload_n (i := 3) dM_part_87 rfl rfl ?_
                refine am_iload (i := 4) dM_part_88 rfl ?_
                refine am_iload (i := 5) dM_part_90 rfl ?_
                refine am_callV (ac' := 0) (as' := 0) (xs := [_, _, _, _, _, _, _]) dM_part_92 lkM_65 (by first | rfl | exact sk8 (by omega) | exact sk9 (by omega) | exact sk10 (by omega) | exact sk11 (by omega)) rfl rfl rfl rfl (Nat.le_of_ble_eq_true rfl) rfl rfl (cM_add hn hsh hmk (fun c28 => ?_) (fun hlt A1 T S W e1 e2 e3 e4 => ?_))
                · refine am_iret (st := []) rfl rfl dM_part_95 ?_
                  exact kf a ha ea hok (by unfold q_paFit; rw [← z1, ← z2]; grind) c28
                · refine am_iret (st := []) rfl rfl dM_part_95 ?_
                  exact ka a ha ea hok (by unfold q_paFit; rw [← z1, ← z2]; grind) hlt _ _ _ _ e1 e2 e3 e4
              · refine am_bipush (v := (-3)) dM_part_78 (by decide) ?_
                refine am_iret (st := []) rfl rfl dM_part_80 ?_
                exact ks a ha ea hok (by unfold q_paFit; rw [← z1, ← z2]; grind)
set_option maxRecDepth 100000 in
set_option maxHeartbeats 4000000 in
theorem lpM_op3 {g : am_G} {d : Nat} {Q : Option am_V → am_H → Prop} {X : Nat → Nat → Nat → am_V} {A P : Nat → Nat → Int32} {st mk pa ce wd us : Nat → Int32} {si : Int32} {n : Nat} {κ xa xb p : Int32} (hn : n ≤ 28) (hsh : q_sha n A P) (hmk : mk n = 0) (kf : ∀ a b, a < n → b < n → xa = nI a → xb = nI b → q_opOk n κ xa xb p → q_opFit A κ a b → n = 28 → Q (some (am_I (-2))) (hm X (ym A P st mk pa ce wd us (nI n) si))) (ka : ∀ a b, a < n → b < n → xa = nI a → xb = nI b → q_opOk n κ xa xb p → q_opFit A κ a b → n < 28 → ∀ A1 T S W, A1 = q_new A n κ xa (if q_one κ then -1 else xb) p 0 (q_opR A κ p a) (q_opC A κ p a b) → T = q_cpn (n + 1) A1 P → S = q_idn (n + 1) st → W = q_wd0 (n + 1) wd → Q (some (am_I (nI n))) (hm X (ym A1 T S mk pa ce W us (nI (n + 1)) 0))) {a b : Nat} (ha : a < n) (hb : b < n) (ea : xa = nI a) (eb : xb = nI b) (hok : q_opOk n κ xa xb p) (hfit : q_opFit A κ a b) {r c : Int32} (er : r = q_opR A κ p a) (ec : c = q_opC A κ p a b) {o : Option am_V} : am_T g mM_operation (d + 2) 0 0 227 [some (am_O 20 0), some (am_I κ), some (am_I xa), some (am_I xb), some (am_I p), o, some (am_I r), some (am_I c)] [] (hm X (ym A P st mk pa ce wd us (nI n) si)) Q := by
  refine am_aload_n (i := 0) dM_operation_227 rfl rfl ?_
  refine am_iload_n (i := 1) dM_operation_228 rfl rfl ?_
  refine am_iload_n (i := 2) dM_operation_229 rfl rfl ?_
  refine am_aload_n (i := 0) dM_operation_230 rfl rfl ?_
  refine am_iload_n (i := 1) dM_operation_231 rfl rfl ?_
  refine am_callV (ac' := 0) (as' := 0) (xs := [_]) dM_operation_232 lkM_73 (by first | rfl | exact sk8 (by omega) | exact sk9 (by omega) | exact sk10 (by omega) | exact sk11 (by omega)) rfl rfl rfl rfl (Nat.le_of_ble_eq_true rfl) rfl rfl (cM_unary (fun cu => ?_) (fun cu => ?_))
  · refine am_if_eq_F (tgt := 242) dM_operation_235 (by decide) (by decide) ?_
    refine am_iconst (v := (-1)) dM_operation_238 (by decide) ?_
    refine am_goto (tgt := 243) dM_operation_239 (by decide) ?_
    refine am_iload (i := 4) dM_operation_243 rfl ?_
    refine am_iconst (v := 0) dM_operation_245 (by decide) ?_
    refine am_iload (i := 6) dM_operation_246 rfl ?_
    refine am_iload (i := 7) dM_operation_248 rfl ?_
    refine am_callV (ac' := 0) (as' := 0) (xs := [_, _, _, _, _, _, _]) dM_operation_250 lkM_65 (by first | rfl | exact sk8 (by omega) | exact sk9 (by omega) | exact sk10 (by omega) | exact sk11 (by omega)) rfl rfl rfl rfl (Nat.le_of_ble_eq_true rfl) rfl rfl (cM_add hn hsh hmk (fun c28 => ?_) (fun hlt A1 T S W e1 e2 e3 e4 => ?_))
    · refine am_iret (st := []) rfl rfl dM_operation_253 ?_
      exact kf a b ha hb ea eb hok hfit c28
    · refine am_iret (st := []) rfl rfl dM_operation_253 ?_
      exact ka a b ha hb ea eb hok hfit hlt _ _ _ _ (by rw [e1, er, ec, if_pos (by grind)]) e2 e3 e4
  · refine am_if_eq_T (tgt := 242) dM_operation_235 (by decide) (by decide) ?_
    refine am_iload_n (i := 3) dM_operation_242 rfl rfl ?_
    refine am_iload (i := 4) dM_operation_243 rfl ?_
    refine am_iconst (v := 0) dM_operation_245 (by decide) ?_
    refine am_iload (i := 6) dM_operation_246 rfl ?_
    refine am_iload (i := 7) dM_operation_248 rfl ?_
    refine am_callV (ac' := 0) (as' := 0) (xs := [_, _, _, _, _, _, _]) dM_operation_250 lkM_65 (by first | rfl | exact sk8 (by omega) | exact sk9 (by omega) | exact sk10 (by omega) | exact sk11 (by omega)) rfl rfl rfl rfl (Nat.le_of_ble_eq_true rfl) rfl rfl (cM_add hn hsh hmk (fun c28 => ?_) (fun hlt A1 T S W e1 e2 e3 e4 => ?_))
    · refine am_iret (st := []) rfl rfl dM_operation_253 ?_
      exact kf a b ha hb ea eb hok hfit c28
    · refine am_iret (st := []) rfl rfl dM_operation_253 ?_
      exact ka a b ha hb ea eb hok hfit hlt _ _ _ _ (by rw [e1, er, ec, if_neg (by grind)]) e2 e3 e4
set_option maxRecDepth 100000 in
set_option maxHeartbeats 4000000 in
theorem lpM_op2 {g : am_G} {d : Nat} {Q : Option am_V → am_H → Prop} {X : Nat → Nat → Nat → am_V} {A P : Nat → Nat → Int32} {st mk pa ce wd us : Nat → Int32} {si : Int32} {n : Nat} {κ xa xb p : Int32} (hn : n ≤ 28) (hsh : q_sha n A P) (hmk : mk n = 0) (kf : ∀ a b, a < n → b < n → xa = nI a → xb = nI b → q_opOk n κ xa xb p → q_opFit A κ a b → n = 28 → Q (some (am_I (-2))) (hm X (ym A P st mk pa ce wd us (nI n) si))) (ka : ∀ a b, a < n → b < n → xa = nI a → xb = nI b → q_opOk n κ xa xb p → q_opFit A κ a b → n < 28 → ∀ A1 T S W, A1 = q_new A n κ xa (if q_one κ then -1 else xb) p 0 (q_opR A κ p a) (q_opC A κ p a b) → T = q_cpn (n + 1) A1 P → S = q_idn (n + 1) st → W = q_wd0 (n + 1) wd → Q (some (am_I (nI n))) (hm X (ym A1 T S mk pa ce W us (nI (n + 1)) 0))) {a b : Nat} (ha : a < n) (hb : b < n) (ea : xa = nI a) (eb : xb = nI b) (hok : q_opOk n κ xa xb p) (hfit : q_opFit A κ a b) {r : Int32} (er : r = q_opR A κ p a) {o o7 : Option am_V} : am_T g mM_operation (d + 2) 0 0 173 [some (am_O 20 0), some (am_I κ), some (am_I xa), some (am_I xb), some (am_I p), o, some (am_I r), o7] [] (hm X (ym A P st mk pa ce wd us (nI n) si)) Q := by
  obtain ⟨z1, z2⟩ := hsh a ha
  obtain ⟨y1, y2⟩ := hsh b hb
  have hab : q_one κ → a = b := fun q => nI_inj (by omega) (by omega) (by rw [← ea, ← eb]; exact (hok.2.2.2.2.1 q).symm)
  refine am_iload_n (i := 1) dM_operation_173 rfl rfl ?_
  refine am_bipush (v := 7) dM_operation_174 (by decide) ?_
  refine am_icmp_ne (tgt := 188) dM_operation_176 (by decide) (fun c176 => ?_) (fun c176 => ?_)
  · refine am_iload_n (i := 1) dM_operation_188 rfl rfl ?_
    refine am_bipush (v := 8) dM_operation_189 (by decide) ?_
    refine am_icmp_ne (tgt := 203) dM_operation_191 (by decide) (fun c191 => ?_) (fun c191 => ?_)
    · refine am_iload_n (i := 1) dM_operation_203 rfl rfl ?_
      refine am_bipush (v := 9) dM_operation_204 (by decide) ?_
      refine am_icmp_ne (tgt := 219) dM_operation_206 (by decide) (fun c206 => ?_) (fun c206 => ?_)
      · refine am_aload_n (i := 0) dM_operation_219 rfl rfl ?_
        refine am_getf dM_operation_220 flM_28 (by first | rfl | exact sk8 (by omega) | exact sk9 (by omega) | exact sk10 (by omega) | exact sk11 (by omega)) rfl ?_
        refine am_iload_n (i := 2) dM_operation_223 rfl rfl ?_
        refine am_iald dM_operation_224 (by first | rfl | exact sk8 (by omega) | exact sk9 (by omega) | exact sk10 (by omega) | exact sk11 (by omega)) ea (by first | omega | assumption | decide) (by decide) (by decide) (by first | exact congrArg am_I (mkd_lo (by omega)) | exact congrArg am_I (mkd_hi (by omega)) | rfl) ?_
        refine am_istore (i := 7) dM_operation_225 (by decide) ?_
        exact lpM_op3 hn hsh hmk kf ka ha hb ea eb hok hfit er (by unfold q_opC; grind)
      · refine am_iload (i := 4) dM_operation_209 rfl ?_
        refine am_iconst (v := 1) dM_operation_211 (by decide) ?_
        refine am_icmp_ne (tgt := 219) dM_operation_212 (by decide) (fun c212 => ?_) (fun c212 => ?_)
        · refine am_aload_n (i := 0) dM_operation_219 rfl rfl ?_
          refine am_getf dM_operation_220 flM_28 (by first | rfl | exact sk8 (by omega) | exact sk9 (by omega) | exact sk10 (by omega) | exact sk11 (by omega)) rfl ?_
          refine am_iload_n (i := 2) dM_operation_223 rfl rfl ?_
          refine am_iald dM_operation_224 (by first | rfl | exact sk8 (by omega) | exact sk9 (by omega) | exact sk10 (by omega) | exact sk11 (by omega)) ea (by first | omega | assumption | decide) (by decide) (by decide) (by first | exact congrArg am_I (mkd_lo (by omega)) | exact congrArg am_I (mkd_hi (by omega)) | rfl) ?_
          refine am_istore (i := 7) dM_operation_225 (by decide) ?_
          exact lpM_op3 hn hsh hmk kf ka ha hb ea eb hok hfit er (by unfold q_opC; grind)
        · refine am_iconst (v := 1) dM_operation_215 (by decide) ?_
          refine am_goto (tgt := 225) dM_operation_216 (by decide) ?_
          refine am_istore (i := 7) dM_operation_225 (by decide) ?_
          exact lpM_op3 hn hsh hmk kf ka ha hb ea eb hok hfit er (by unfold q_opC; grind)
    · refine am_aload_n (i := 0) dM_operation_194 rfl rfl ?_
      refine am_getf dM_operation_195 flM_28 (by first | rfl | exact sk8 (by omega) | exact sk9 (by omega) | exact sk10 (by omega) | exact sk11 (by omega)) rfl ?_
      refine am_iload_n (i := 3) dM_operation_198 rfl rfl ?_
      refine am_iald dM_operation_199 (by first | rfl | exact sk8 (by omega) | exact sk9 (by omega) | exact sk10 (by omega) | exact sk11 (by omega)) eb (by first | omega | assumption | decide) (by decide) (by decide) (by first | exact congrArg am_I (mkd_lo (by omega)) | exact congrArg am_I (mkd_hi (by omega)) | rfl) ?_
      refine am_goto (tgt := 225) dM_operation_200 (by decide) ?_
      refine am_istore (i := 7) dM_operation_225 (by decide) ?_
      exact lpM_op3 hn hsh hmk kf ka ha hb ea eb hok hfit er (by unfold q_opC; grind)
  · refine am_aload_n (i := 0) dM_operation_179 rfl rfl ?_
    refine am_getf dM_operation_180 flM_25 (by first | rfl | exact sk8 (by omega) | exact sk9 (by omega) | exact sk10 (by omega) | exact sk11 (by omega)) rfl ?_
    refine am_iload_n (i := 2) dM_operation_183 rfl rfl ?_
    refine am_iald dM_operation_184 (by first | rfl | exact sk8 (by omega) | exact sk9 (by omega) | exact sk10 (by omega) | exact sk11 (by omega)) ea (by first | omega | assumption | decide) (by decide) (by decide) (by first | exact congrArg am_I (mkd_lo (by omega)) | exact congrArg am_I (mkd_hi (by omega)) | rfl) ?_
    refine am_goto (tgt := 225) dM_operation_185 (by decide) ?_
    refine am_istore (i := 7) dM_operation_225 (by decide) ?_
    exact lpM_op3 hn hsh hmk kf ka ha hb ea eb hok hfit er (by unfold q_opC; grind)
set_option maxRecDepth 100000 in
set_option maxHeartbeats 4000000 in
theorem lpM_op1 {g : am_G} {d : Nat} {Q : Option am_V → am_H → Prop} {X : Nat → Nat → Nat → am_V} {A P : Nat → Nat → Int32} {st mk pa ce wd us : Nat → Int32} {si : Int32} {n : Nat} {κ xa xb p : Int32} (hn : n ≤ 28) (hsh : q_sha n A P) (hmk : mk n = 0) (kf : ∀ a b, a < n → b < n → xa = nI a → xb = nI b → q_opOk n κ xa xb p → q_opFit A κ a b → n = 28 → Q (some (am_I (-2))) (hm X (ym A P st mk pa ce wd us (nI n) si))) (ka : ∀ a b, a < n → b < n → xa = nI a → xb = nI b → q_opOk n κ xa xb p → q_opFit A κ a b → n < 28 → ∀ A1 T S W, A1 = q_new A n κ xa (if q_one κ then -1 else xb) p 0 (q_opR A κ p a) (q_opC A κ p a b) → T = q_cpn (n + 1) A1 P → S = q_idn (n + 1) st → W = q_wd0 (n + 1) wd → Q (some (am_I (nI n))) (hm X (ym A1 T S mk pa ce W us (nI (n + 1)) 0))) {a b : Nat} (ha : a < n) (hb : b < n) (ea : xa = nI a) (eb : xb = nI b) (hok : q_opOk n κ xa xb p) (hfit : q_opFit A κ a b) {o o6 o7 : Option am_V} : am_T g mM_operation (d + 2) 0 0 135 [some (am_O 20 0), some (am_I κ), some (am_I xa), some (am_I xb), some (am_I p), o, o6, o7] [] (hm X (ym A P st mk pa ce wd us (nI n) si)) Q := by
  obtain ⟨z1, z2⟩ := hsh a ha
  refine am_iload_n (i := 1) dM_operation_135 rfl rfl ?_
  refine am_bipush (v := 7) dM_operation_136 (by decide) ?_
  refine am_icmp_ne (tgt := 150) dM_operation_138 (by decide) (fun c138 => ?_) (fun c138 => ?_)
  · refine am_iload_n (i := 1) dM_operation_150 rfl rfl ?_
    refine am_bipush (v := 9) dM_operation_151 (by decide) ?_
    refine am_icmp_ne (tgt := 165) dM_operation_153 (by decide) (fun c153 => ?_) (fun c153 => ?_)
    · refine am_aload_n (i := 0) dM_operation_165 rfl rfl ?_
      refine am_getf dM_operation_166 flM_25 (by first | rfl | exact sk8 (by omega) | exact sk9 (by omega) | exact sk10 (by omega) | exact sk11 (by omega)) rfl ?_
      refine am_iload_n (i := 2) dM_operation_169 rfl rfl ?_
      refine am_iald dM_operation_170 (by first | rfl | exact sk8 (by omega) | exact sk9 (by omega) | exact sk10 (by omega) | exact sk11 (by omega)) ea (by first | omega | assumption | decide) (by decide) (by decide) (by first | exact congrArg am_I (mkd_lo (by omega)) | exact congrArg am_I (mkd_hi (by omega)) | rfl) ?_
      refine am_istore (i := 6) dM_operation_171 (by decide) ?_
      exact lpM_op2 hn hsh hmk kf ka ha hb ea eb hok hfit (by unfold q_opR; grind)
    · refine am_iload (i := 4) dM_operation_156 rfl ?_
      refine am_if_ne (tgt := 165) dM_operation_158 (by decide) (fun c158 => ?_) (fun c158 => ?_)
      · refine am_aload_n (i := 0) dM_operation_165 rfl rfl ?_
        refine am_getf dM_operation_166 flM_25 (by first | rfl | exact sk8 (by omega) | exact sk9 (by omega) | exact sk10 (by omega) | exact sk11 (by omega)) rfl ?_
        refine am_iload_n (i := 2) dM_operation_169 rfl rfl ?_
        refine am_iald dM_operation_170 (by first | rfl | exact sk8 (by omega) | exact sk9 (by omega) | exact sk10 (by omega) | exact sk11 (by omega)) ea (by first | omega | assumption | decide) (by decide) (by decide) (by first | exact congrArg am_I (mkd_lo (by omega)) | exact congrArg am_I (mkd_hi (by omega)) | rfl) ?_
        refine am_istore (i := 6) dM_operation_171 (by decide) ?_
        exact lpM_op2 hn hsh hmk kf ka ha hb ea eb hok hfit (by unfold q_opR; grind)
      · refine am_iconst (v := 1) dM_operation_161 (by decide) ?_
        refine am_goto (tgt := 171) dM_operation_162 (by decide) ?_
        refine am_istore (i := 6) dM_operation_171 (by decide) ?_
        exact lpM_op2 hn hsh hmk kf ka ha hb ea eb hok hfit (by unfold q_opR; grind)
  · refine am_aload_n (i := 0) dM_operation_141 rfl rfl ?_
    refine am_getf dM_operation_142 flM_28 (by first | rfl | exact sk8 (by omega) | exact sk9 (by omega) | exact sk10 (by omega) | exact sk11 (by omega)) rfl ?_
    refine am_iload_n (i := 2) dM_operation_145 rfl rfl ?_
    refine am_iald dM_operation_146 (by first | rfl | exact sk8 (by omega) | exact sk9 (by omega) | exact sk10 (by omega) | exact sk11 (by omega)) ea (by first | omega | assumption | decide) (by decide) (by decide) (by first | exact congrArg am_I (mkd_lo (by omega)) | exact congrArg am_I (mkd_hi (by omega)) | rfl) ?_
    refine am_goto (tgt := 171) dM_operation_147 (by decide) ?_
    refine am_istore (i := 6) dM_operation_171 (by decide) ?_
    exact lpM_op2 hn hsh hmk kf ka ha hb ea eb hok hfit (by unfold q_opR; grind)
set_option maxRecDepth 100000 in
set_option maxHeartbeats 4000000 in
theorem cM_operation {g : am_G} {d : Nat} {Q : Option am_V → am_H → Prop} {X : Nat → Nat → Nat → am_V} {A P : Nat → Nat → Int32} {st mk pa ce wd us : Nat → Int32} {si : Int32} {n : Nat} {κ xa xb p : Int32} (hn : n ≤ 28) (hsh : q_sha n A P) (hmk : mk n = 0) (kr : ¬ q_opOk n κ xa xb p → Q (some (am_I (-1))) (hm X (ym A P st mk pa ce wd us (nI n) si))) (ks : ∀ a b, a < n → b < n → xa = nI a → xb = nI b → q_opOk n κ xa xb p → ¬ q_opFit A κ a b → Q (some (am_I (-3))) (hm X (ym A P st mk pa ce wd us (nI n) si))) (kf : ∀ a b, a < n → b < n → xa = nI a → xb = nI b → q_opOk n κ xa xb p → q_opFit A κ a b → n = 28 → Q (some (am_I (-2))) (hm X (ym A P st mk pa ce wd us (nI n) si))) (ka : ∀ a b, a < n → b < n → xa = nI a → xb = nI b → q_opOk n κ xa xb p → q_opFit A κ a b → n < 28 → ∀ A1 T S W, A1 = q_new A n κ xa (if q_one κ then -1 else xb) p 0 (q_opR A κ p a) (q_opC A κ p a b) → T = q_cpn (n + 1) A1 P → S = q_idn (n + 1) st → W = q_wd0 (n + 1) wd → Q (some (am_I (nI n))) (hm X (ym A1 T S mk pa ce W us (nI (n + 1)) 0))) : am_C g mM_operation (d + 2) 0 0 [am_O 20 0, am_I κ, am_I xa, am_I xb, am_I p] (hm X (ym A P st mk pa ce wd us (nI n) si)) Q := by
  refine am_enter (lv := [some (am_O 20 0), some (am_I κ), some (am_I xa), some (am_I xb), some (am_I p), none, none, none]) rfl rfl (am_cat1 rfl) (Nat.le_of_ble_eq_true rfl) ?_
  refine am_aload_n (i := 0) dM_operation_0 rfl rfl ?_
  refine am_iload_n (i := 1) dM_operation_1 rfl rfl ?_
  refine am_iconst (v := 3) dM_operation_2 (by decide) ?_
  refine am_bipush (v := 9) dM_operation_3 (by decide) ?_
  refine am_callV (ac' := 0) (as' := 0) (xs := [_, _, _]) dM_operation_5 lkM_61 (by first | rfl | exact sk8 (by omega) | exact sk9 (by omega) | exact sk10 (by omega) | exact sk11 (by omega)) rfl rfl rfl rfl (Nat.le_of_ble_eq_true rfl) rfl rfl (cM_off (fun o5 => ?_) (fun o5 => ?_))
  · refine am_if_ne_T (tgt := 61) dM_operation_8 (by decide) (by decide) ?_
    refine am_iconst (v := (-1)) dM_operation_61 (by decide) ?_
    refine am_iret (st := []) rfl rfl dM_operation_62 ?_
    exact kr (by grind)
  · refine am_if_ne_F (tgt := 61) dM_operation_8 (by decide) (by decide) ?_
    refine am_aload_n (i := 0) dM_operation_11 rfl rfl ?_
    refine am_iload_n (i := 2) dM_operation_12 rfl rfl ?_
    refine am_callV (ac' := 0) (as' := 0) (xs := [_]) dM_operation_13 lkM_69 (by first | rfl | exact sk8 (by omega) | exact sk9 (by omega) | exact sk10 (by omega) | exact sk11 (by omega)) rfl rfl rfl rfl (Nat.le_of_ble_eq_true rfl) rfl rfl (cM_no hn (fun na => ?_) (fun a ha ea => ?_))
    · refine am_if_ne_T (tgt := 61) dM_operation_16 (by decide) (by decide) ?_
      refine am_iconst (v := (-1)) dM_operation_61 (by decide) ?_
      refine am_iret (st := []) rfl rfl dM_operation_62 ?_
      exact kr (by grind)
    · refine am_if_ne_F (tgt := 61) dM_operation_16 (by decide) (by decide) ?_
      refine am_aload_n (i := 0) dM_operation_19 rfl rfl ?_
      refine am_iload_n (i := 3) dM_operation_20 rfl rfl ?_
      refine am_callV (ac' := 0) (as' := 0) (xs := [_]) dM_operation_21 lkM_69 (by first | rfl | exact sk8 (by omega) | exact sk9 (by omega) | exact sk10 (by omega) | exact sk11 (by omega)) rfl rfl rfl rfl (Nat.le_of_ble_eq_true rfl) rfl rfl (cM_no hn (fun nb => ?_) (fun b hb eb => ?_))
      · refine am_if_ne_T (tgt := 61) dM_operation_24 (by decide) (by decide) ?_
        refine am_iconst (v := (-1)) dM_operation_61 (by decide) ?_
        refine am_iret (st := []) rfl rfl dM_operation_62 ?_
        exact kr (by grind)
      · refine am_if_ne_F (tgt := 61) dM_operation_24 (by decide) (by decide) ?_
        refine am_aload_n (i := 0) dM_operation_27 rfl rfl ?_
        refine am_iload_n (i := 1) dM_operation_28 rfl rfl ?_
        refine am_callV (ac' := 0) (as' := 0) (xs := [_]) dM_operation_29 lkM_73 (by first | rfl | exact sk8 (by omega) | exact sk9 (by omega) | exact sk10 (by omega) | exact sk11 (by omega)) rfl rfl rfl rfl (Nat.le_of_ble_eq_true rfl) rfl rfl (cM_unary (fun cu => ?_) (fun cu => ?_))
        · refine am_if_eq_F (tgt := 40) dM_operation_32 (by decide) (by decide) ?_
          refine am_iload_n (i := 2) dM_operation_35 rfl rfl ?_
          refine am_iload_n (i := 3) dM_operation_36 rfl rfl ?_
          refine am_icmp_ne (tgt := 61) dM_operation_37 (by decide) (fun c37 => ?_) (fun c37 => ?_)
          · refine am_iconst (v := (-1)) dM_operation_61 (by decide) ?_
            refine am_iret (st := []) rfl rfl dM_operation_62 ?_
            exact kr (by grind)
          · refine am_aload_n (i := 0) dM_operation_40 rfl rfl ?_
            refine am_iload (i := 4) dM_operation_41 rfl ?_
            refine am_iconst (v := 0) dM_operation_43 (by decide) ?_
            refine am_iload_n (i := 1) dM_operation_44 rfl rfl ?_
            refine am_bipush (v := 9) dM_operation_45 (by decide) ?_
            refine am_icmp_ne (tgt := 54) dM_operation_47 (by decide) (fun c47 => ?_) (fun c47 => ?_)
            · refine am_iconst (v := 0) dM_operation_54 (by decide) ?_
              refine am_callV (ac' := 0) (as' := 0) (xs := [_, _, _]) dM_operation_55 lkM_61 (by first | rfl | exact sk8 (by omega) | exact sk9 (by omega) | exact sk10 (by omega) | exact sk11 (by omega)) rfl rfl rfl rfl (Nat.le_of_ble_eq_true rfl) rfl rfl (cM_off (fun o55 => ?_) (fun o55 => ?_))
              · refine am_if_eq_F (tgt := 63) dM_operation_58 (by decide) (by decide) ?_
                refine am_iconst (v := (-1)) dM_operation_61 (by decide) ?_
                refine am_iret (st := []) rfl rfl dM_operation_62 ?_
                exact kr (by grind)
              · refine am_if_eq_T (tgt := 63) dM_operation_58 (by decide) (by decide) ?_
                obtain ⟨z1, z2⟩ := hsh a ha
                obtain ⟨y1, y2⟩ := hsh b hb
                have hok : q_opOk n κ xa xb p := ⟨by grind, by grind, ea ▸ q_val_of ha hn, eb ▸ q_val_of hb hn, by grind, by grind, by grind⟩
                have hab : q_one κ → a = b := fun q => nI_inj (by omega) (by omega) (by rw [← ea, ← eb]; exact (hok.2.2.2.2.1 q).symm)
                refine am_aload_n (i := 0) dM_operation_63 rfl rfl ?_
                refine am_getf dM_operation_64 flM_25 (by first | rfl | exact sk8 (by omega) | exact sk9 (by omega) | exact sk10 (by omega) | exact sk11 (by omega)) rfl ?_
                refine am_iload_n (i := 2) dM_operation_67 rfl rfl ?_
                refine am_iald dM_operation_68 (by first | rfl | exact sk8 (by omega) | exact sk9 (by omega) | exact sk10 (by omega) | exact sk11 (by omega)) ea (by first | omega | assumption | decide) (by decide) (by decide) (by first | exact congrArg am_I (mkd_lo (by omega)) | exact congrArg am_I (mkd_hi (by omega)) | rfl) ?_
                refine am_aload_n (i := 0) dM_operation_69 rfl rfl ?_
                refine am_getf dM_operation_70 flM_25 (by first | rfl | exact sk8 (by omega) | exact sk9 (by omega) | exact sk10 (by omega) | exact sk11 (by omega)) rfl ?_
                refine am_iload_n (i := 3) dM_operation_73 rfl rfl ?_
                refine am_iald dM_operation_74 (by first | rfl | exact sk8 (by omega) | exact sk9 (by omega) | exact sk10 (by omega) | exact sk11 (by omega)) eb (by first | omega | assumption | decide) (by decide) (by decide) (by first | exact congrArg am_I (mkd_lo (by omega)) | exact congrArg am_I (mkd_hi (by omega)) | rfl) ?_
                refine am_icmp_ne (tgt := 97) dM_operation_75 (by decide) (fun c75 => ?_) (fun c75 => ?_)
                · refine am_iconst (v := 0) dM_operation_97 (by decide) ?_
                  refine am_istore (i := 5) dM_operation_98 (by decide) ?_
                  refine am_iload_n (i := 1) dM_operation_100 rfl rfl ?_
                  refine am_bipush (v := 6) dM_operation_101 (by decide) ?_
                  refine am_icmp_ge (tgt := 111) dM_operation_103 (by decide) (fun c103 => ?_) (fun c103 => ?_)
                  · refine am_iload_n (i := 1) dM_operation_111 rfl rfl ?_
                    refine am_bipush (v := 8) dM_operation_112 (by decide) ?_
                    refine am_icmp_ne (tgt := 135) dM_operation_114 (by decide) (fun c114 => ?_) (fun c114 => ?_)
                    · exact lpM_op1 hn hsh hmk kf ka ha hb ea eb hok (by unfold q_opFit; rw [← z1, ← z2, ← y1, ← y2]; grind)
                    · refine am_aload_n (i := 0) dM_operation_117 rfl rfl ?_
                      refine am_getf dM_operation_118 flM_28 (by first | rfl | exact sk8 (by omega) | exact sk9 (by omega) | exact sk10 (by omega) | exact sk11 (by omega)) rfl ?_
                      refine am_iload_n (i := 2) dM_operation_121 rfl rfl ?_
                      refine am_iald dM_operation_122 (by first | rfl | exact sk8 (by omega) | exact sk9 (by omega) | exact sk10 (by omega) | exact sk11 (by omega)) ea (by first | omega | assumption | decide) (by decide) (by decide) (by first | exact congrArg am_I (mkd_lo (by omega)) | exact congrArg am_I (mkd_hi (by omega)) | rfl) ?_
                      refine am_aload_n (i := 0) dM_operation_123 rfl rfl ?_
                      refine am_getf dM_operation_124 flM_25 (by first | rfl | exact sk8 (by omega) | exact sk9 (by omega) | exact sk10 (by omega) | exact sk11 (by omega)) rfl ?_
                      refine am_iload_n (i := 3) dM_operation_127 rfl rfl ?_
                      refine am_iald dM_operation_128 (by first | rfl | exact sk8 (by omega) | exact sk9 (by omega) | exact sk10 (by omega) | exact sk11 (by omega)) eb (by first | omega | assumption | decide) (by decide) (by decide) (by first | exact congrArg am_I (mkd_lo (by omega)) | exact congrArg am_I (mkd_hi (by omega)) | rfl) ?_
                      refine am_icmp_eq (tgt := 135) dM_operation_129 (by decide) (fun c129 => ?_) (fun c129 => ?_)
                      · exact lpM_op1 hn hsh hmk kf ka ha hb ea eb hok (by unfold q_opFit; rw [← z1, ← z2, ← y1, ← y2]; grind)
                      · refine am_bipush (v := (-3)) dM_operation_132 (by decide) ?_
                        refine am_iret (st := []) rfl rfl dM_operation_134 ?_
                        exact ks a b ha hb ea eb hok (by unfold q_opFit; rw [← z1, ← z2, ← y1, ← y2]; grind)
                  · refine am_iload (i := 5) dM_operation_106 rfl ?_
                    refine am_if_eq_T (tgt := 132) dM_operation_108 (by decide) (by decide) ?_
                    refine am_bipush (v := (-3)) dM_operation_132 (by decide) ?_
                    refine am_iret (st := []) rfl rfl dM_operation_134 ?_
                    exact ks a b ha hb ea eb hok (by unfold q_opFit; rw [← z1, ← z2, ← y1, ← y2]; grind)
                · refine am_aload_n (i := 0) dM_operation_78 rfl rfl ?_
                  refine am_getf dM_operation_79 flM_28 (by first | rfl | exact sk8 (by omega) | exact sk9 (by omega) | exact sk10 (by omega) | exact sk11 (by omega)) rfl ?_
                  refine am_iload_n (i := 2) dM_operation_82 rfl rfl ?_
                  refine am_iald dM_operation_83 (by first | rfl | exact sk8 (by omega) | exact sk9 (by omega) | exact sk10 (by omega) | exact sk11 (by omega)) ea (by first | omega | assumption | decide) (by decide) (by decide) (by first | exact congrArg am_I (mkd_lo (by omega)) | exact congrArg am_I (mkd_hi (by omega)) | rfl) ?_
                  refine am_aload_n (i := 0) dM_operation_84 rfl rfl ?_
                  refine am_getf dM_operation_85 flM_28 (by first | rfl | exact sk8 (by omega) | exact sk9 (by omega) | exact sk10 (by omega) | exact sk11 (by omega)) rfl ?_
                  refine am_iload_n (i := 3) dM_operation_88 rfl rfl ?_
                  refine am_iald dM_operation_89 (by first | rfl | exact sk8 (by omega) | exact sk9 (by omega) | exact sk10 (by omega) | exact sk11 (by omega)) eb (by first | omega | assumption | decide) (by decide) (by decide) (by first | exact congrArg am_I (mkd_lo (by omega)) | exact congrArg am_I (mkd_hi (by omega)) | rfl) ?_
                  refine am_icmp_ne (tgt := 97) dM_operation_90 (by decide) (fun c90 => ?_) (fun c90 => ?_)
                  · refine am_iconst (v := 0) dM_operation_97 (by decide) ?_
                    refine am_istore (i := 5) dM_operation_98 (by decide) ?_
                    refine am_iload_n (i := 1) dM_operation_100 rfl rfl ?_
                    refine am_bipush (v := 6) dM_operation_101 (by decide) ?_
                    refine am_icmp_ge (tgt := 111) dM_operation_103 (by decide) (fun c103 => ?_) (fun c103 => ?_)
                    · refine am_iload_n (i := 1) dM_operation_111 rfl rfl ?_
                      refine am_bipush (v := 8) dM_operation_112 (by decide) ?_
                      refine am_icmp_ne (tgt := 135) dM_operation_114 (by decide) (fun c114 => ?_) (fun c114 => ?_)
                      · exact lpM_op1 hn hsh hmk kf ka ha hb ea eb hok (by unfold q_opFit; rw [← z1, ← z2, ← y1, ← y2]; grind)
                      · refine am_aload_n (i := 0) dM_operation_117 rfl rfl ?_
                        refine am_getf dM_operation_118 flM_28 (by first | rfl | exact sk8 (by omega) | exact sk9 (by omega) | exact sk10 (by omega) | exact sk11 (by omega)) rfl ?_
                        refine am_iload_n (i := 2) dM_operation_121 rfl rfl ?_
                        refine am_iald dM_operation_122 (by first | rfl | exact sk8 (by omega) | exact sk9 (by omega) | exact sk10 (by omega) | exact sk11 (by omega)) ea (by first | omega | assumption | decide) (by decide) (by decide) (by first | exact congrArg am_I (mkd_lo (by omega)) | exact congrArg am_I (mkd_hi (by omega)) | rfl) ?_
                        refine am_aload_n (i := 0) dM_operation_123 rfl rfl ?_
                        refine am_getf dM_operation_124 flM_25 (by first | rfl | exact sk8 (by omega) | exact sk9 (by omega) | exact sk10 (by omega) | exact sk11 (by omega)) rfl ?_
                        refine am_iload_n (i := 3) dM_operation_127 rfl rfl ?_
                        refine am_iald dM_operation_128 (by first | rfl | exact sk8 (by omega) | exact sk9 (by omega) | exact sk10 (by omega) | exact sk11 (by omega)) eb (by first | omega | assumption | decide) (by decide) (by decide) (by first | exact congrArg am_I (mkd_lo (by omega)) | exact congrArg am_I (mkd_hi (by omega)) | rfl) ?_
                        refine am_icmp_eq (tgt := 135) dM_operation_129 (by decide) (fun c129 => ?_) (fun c129 => ?_)
                        · exact lpM_op1 hn hsh hmk kf ka ha hb ea eb hok (by unfold q_opFit; rw [← z1, ← z2, ← y1, ← y2]; grind)
                        · refine am_bipush (v := (-3)) dM_operation_132 (by decide) ?_
                          refine am_iret (st := []) rfl rfl dM_operation_134 ?_
                          exact ks a b ha hb ea eb hok (by unfold q_opFit; rw [← z1, ← z2, ← y1, ← y2]; grind)
                    · refine am_iload (i := 5) dM_operation_106 rfl ?_
                      refine am_if_eq_T (tgt := 132) dM_operation_108 (by decide) (by decide) ?_
                      refine am_bipush (v := (-3)) dM_operation_132 (by decide) ?_
                      refine am_iret (st := []) rfl rfl dM_operation_134 ?_
                      exact ks a b ha hb ea eb hok (by unfold q_opFit; rw [← z1, ← z2, ← y1, ← y2]; grind)
                  · refine am_iconst (v := 1) dM_operation_93 (by decide) ?_
                    refine am_goto (tgt := 98) dM_operation_94 (by decide) ?_
                    refine am_istore (i := 5) dM_operation_98 (by decide) ?_
                    refine am_iload_n (i := 1) dM_operation_100 rfl rfl ?_
                    refine am_bipush (v := 6) dM_operation_101 (by decide) ?_
                    refine am_icmp_ge (tgt := 111) dM_operation_103 (by decide) (fun c103 => ?_) (fun c103 => ?_)
                    · refine am_iload_n (i := 1) dM_operation_111 rfl rfl ?_
                      refine am_bipush (v := 8) dM_operation_112 (by decide) ?_
                      refine am_icmp_ne (tgt := 135) dM_operation_114 (by decide) (fun c114 => ?_) (fun c114 => ?_)
                      · exact lpM_op1 hn hsh hmk kf ka ha hb ea eb hok (by unfold q_opFit; rw [← z1, ← z2, ← y1, ← y2]; grind)
                      · refine am_aload_n (i := 0) dM_operation_117 rfl rfl ?_
                        refine am_getf dM_operation_118 flM_28 (by first | rfl | exact sk8 (by omega) | exact sk9 (by omega) | exact sk10 (by omega) | exact sk11 (by omega)) rfl ?_
                        refine am_iload_n (i := 2) dM_operation_121 rfl rfl ?_
                        refine am_iald dM_operation_122 (by first | rfl | exact sk8 (by omega) | exact sk9 (by omega) | exact sk10 (by omega) | exact sk11 (by omega)) ea (by first | omega | assumption | decide) (by decide) (by decide) (by first | exact congrArg am_I (mkd_lo (by omega)) | exact congrArg am_I (mkd_hi (by omega)) | rfl) ?_
                        refine am_aload_n (i := 0) dM_operation_123 rfl rfl ?_
                        refine am_getf dM_operation_124 flM_25 (by first | rfl | exact sk8 (by omega) | exact sk9 (by omega) | exact sk10 (by omega) | exact sk11 (by omega)) rfl ?_
                        refine am_iload_n (i := 3) dM_operation_127 rfl rfl ?_
                        refine am_iald dM_operation_128 (by first | rfl | exact sk8 (by omega) | exact sk9 (by omega) | exact sk10 (by omega) | exact sk11 (by omega)) eb (by first | omega | assumption | decide) (by decide) (by decide) (by first | exact congrArg am_I (mkd_lo (by omega)) | exact congrArg am_I (mkd_hi (by omega)) | rfl) ?_
                        refine am_icmp_eq (tgt := 135) dM_operation_129 (by decide) (fun c129 => ?_) (fun c129 => ?_)
                        · exact lpM_op1 hn hsh hmk kf ka ha hb ea eb hok (by unfold q_opFit; rw [← z1, ← z2, ← y1, ← y2]; grind)
                        · refine am_bipush (v := (-3)) dM_operation_132 (by decide) ?_
                          refine am_iret (st := []) rfl rfl dM_operation_134 ?_
                          exact ks a b ha hb ea eb hok (by unfold q_opFit; rw [← z1, ← z2, ← y1, ← y2]; grind)
                    · refine am_iload (i := 5) dM_operation_106 rfl ?_
                      refine am_if_eq_F (tgt := 132) dM_operation_108 (by decide) (by decide) ?_
                      refine am_iload_n (i := 1) dM_operation_111 rfl rfl ?_
                      refine am_bipush (v := 8) dM_operation_112 (by decide) ?_
                      refine am_icmp_ne (tgt := 135) dM_operation_114 (by decide) (fun c114 => ?_) (fun c114 => ?_)
                      · exact lpM_op1 hn hsh hmk kf ka ha hb ea eb hok (by unfold q_opFit; rw [← z1, ← z2, ← y1, ← y2]; grind)
                      · refine am_aload_n (i := 0) dM_operation_117 rfl rfl ?_
                        refine am_getf dM_operation_118 flM_28 (by first | rfl | exact sk8 (by omega) | exact sk9 (by omega) | exact sk10 (by omega) | exact sk11 (by omega)) rfl ?_
                        refine am_iload_n (i := 2) dM_operation_121 rfl rfl ?_
                        refine am_iald dM_operation_122 (by first | rfl | exact sk8 (by omega) | exact sk9 (by omega) | exact sk10 (by omega) | exact sk11 (by omega)) ea (by first | omega | assumption | decide) (by decide) (by decide) (by first | exact congrArg am_I (mkd_lo (by omega)) | exact congrArg am_I (mkd_hi (by omega)) | rfl) ?_
                        refine am_aload_n (i := 0) dM_operation_123 rfl rfl ?_
                        refine am_getf dM_operation_124 flM_25 (by first | rfl | exact sk8 (by omega) | exact sk9 (by omega) | exact sk10 (by omega) | exact sk11 (by omega)) rfl ?_
                        refine am_iload_n (i := 3) dM_operation_127 rfl rfl ?_
                        refine am_iald dM_operation_128 (by first | rfl | exact sk8 (by omega) | exact sk9 (by omega) | exact sk10 (by omega) | exact sk11 (by omega)) eb (by first | omega | assumption | decide) (by decide) (by decide) (by first | exact congrArg am_I (mkd_lo (by omega)) | exact congrArg am_I (mkd_hi (by omega)) | rfl) ?_
                        refine am_icmp_eq (tgt := 135) dM_operation_129 (by decide) (fun c129 => ?_) (fun c129 => ?_)
                        · exact lpM_op1 hn hsh hmk kf ka ha hb ea eb hok (by unfold q_opFit; rw [← z1, ← z2, ← y1, ← y2]; grind)
                        · refine am_bipush (v := (-3)) dM_operation_132 (by decide) ?_
                          refine am_iret (st := []) rfl rfl dM_operation_134 ?_
                          exact ks a b ha hb ea eb hok (by unfold q_opFit; rw [← z1, ← z2, ← y1, ← y2]; grind)
            · refine am_iconst (v := 1) dM_operation_50 (by decide) ?_
              refine am_goto (tgt := 55) dM_operation_51 (by decide) ?_
              refine am_callV (ac' := 0) (as' := 0) (xs := [_, _, _]) dM_operation_55 lkM_61 (by first | rfl | exact sk8 (by omega) | exact sk9 (by omega) | exact sk10 (by omega) | exact sk11 (by omega)) rfl rfl rfl rfl (Nat.le_of_ble_eq_true rfl) rfl rfl (cM_off (fun o55 => ?_) (fun o55 => ?_))
              · refine am_if_eq_F (tgt := 63) dM_operation_58 (by decide) (by decide) ?_
                refine am_iconst (v := (-1)) dM_operation_61 (by decide) ?_
                refine am_iret (st := []) rfl rfl dM_operation_62 ?_
                exact kr (by grind)
              · refine am_if_eq_T (tgt := 63) dM_operation_58 (by decide) (by decide) ?_
                obtain ⟨z1, z2⟩ := hsh a ha
                obtain ⟨y1, y2⟩ := hsh b hb
                have hok : q_opOk n κ xa xb p := ⟨by grind, by grind, ea ▸ q_val_of ha hn, eb ▸ q_val_of hb hn, by grind, by grind, by grind⟩
                have hab : q_one κ → a = b := fun q => nI_inj (by omega) (by omega) (by rw [← ea, ← eb]; exact (hok.2.2.2.2.1 q).symm)
                refine am_aload_n (i := 0) dM_operation_63 rfl rfl ?_
                refine am_getf dM_operation_64 flM_25 (by first | rfl | exact sk8 (by omega) | exact sk9 (by omega) | exact sk10 (by omega) | exact sk11 (by omega)) rfl ?_
                refine am_iload_n (i := 2) dM_operation_67 rfl rfl ?_
                refine am_iald dM_operation_68 (by first | rfl | exact sk8 (by omega) | exact sk9 (by omega) | exact sk10 (by omega) | exact sk11 (by omega)) ea (by first | omega | assumption | decide) (by decide) (by decide) (by first | exact congrArg am_I (mkd_lo (by omega)) | exact congrArg am_I (mkd_hi (by omega)) | rfl) ?_
                refine am_aload_n (i := 0) dM_operation_69 rfl rfl ?_
                refine am_getf dM_operation_70 flM_25 (by first | rfl | exact sk8 (by omega) | exact sk9 (by omega) | exact sk10 (by omega) | exact sk11 (by omega)) rfl ?_
                refine am_iload_n (i := 3) dM_operation_73 rfl rfl ?_
                refine am_iald dM_operation_74 (by first | rfl | exact sk8 (by omega) | exact sk9 (by omega) | exact sk10 (by omega) | exact sk11 (by omega)) eb (by first | omega | assumption | decide) (by decide) (by decide) (by first | exact congrArg am_I (mkd_lo (by omega)) | exact congrArg am_I (mkd_hi (by omega)) | rfl) ?_
                refine am_icmp_ne (tgt := 97) dM_operation_75 (by decide) (fun c75 => ?_) (fun c75 => ?_)
                · refine am_iconst (v := 0) dM_operation_97 (by decide) ?_
                  refine am_istore (i := 5) dM_operation_98 (by decide) ?_
                  refine am_iload_n (i := 1) dM_operation_100 rfl rfl ?_
                  refine am_bipush (v := 6) dM_operation_101 (by decide) ?_
                  refine am_icmp_ge (tgt := 111) dM_operation_103 (by decide) (fun c103 => ?_) (fun c103 => ?_)
                  · refine am_iload_n (i := 1) dM_operation_111 rfl rfl ?_
                    refine am_bipush (v := 8) dM_operation_112 (by decide) ?_
                    refine am_icmp_ne (tgt := 135) dM_operation_114 (by decide) (fun c114 => ?_) (fun c114 => ?_)
                    · exact lpM_op1 hn hsh hmk kf ka ha hb ea eb hok (by unfold q_opFit; rw [← z1, ← z2, ← y1, ← y2]; grind)
                    · refine am_aload_n (i := 0) dM_operation_117 rfl rfl ?_
                      refine am_getf dM_operation_118 flM_28 (by first | rfl | exact sk8 (by omega) | exact sk9 (by omega) | exact sk10 (by omega) | exact sk11 (by omega)) rfl ?_
                      refine am_iload_n (i := 2) dM_operation_121 rfl rfl ?_
                      refine am_iald dM_operation_122 (by first | rfl | exact sk8 (by omega) | exact sk9 (by omega) | exact sk10 (by omega) | exact sk11 (by omega)) ea (by first | omega | assumption | decide) (by decide) (by decide) (by first | exact congrArg am_I (mkd_lo (by omega)) | exact congrArg am_I (mkd_hi (by omega)) | rfl) ?_
                      refine am_aload_n (i := 0) dM_operation_123 rfl rfl ?_
                      refine am_getf dM_operation_124 flM_25 (by first | rfl | exact sk8 (by omega) | exact sk9 (by omega) | exact sk10 (by omega) | exact sk11 (by omega)) rfl ?_
                      refine am_iload_n (i := 3) dM_operation_127 rfl rfl ?_
                      refine am_iald dM_operation_128 (by first | rfl | exact sk8 (by omega) | exact sk9 (by omega) | exact sk10 (by omega) | exact sk11 (by omega)) eb (by first | omega | assumption | decide) (by decide) (by decide) (by first | exact congrArg am_I (mkd_lo (by omega)) | exact congrArg am_I (mkd_hi (by omega)) | rfl) ?_
                      refine am_icmp_eq (tgt := 135) dM_operation_129 (by decide) (fun c129 => ?_) (fun c129 => ?_)
                      · exact lpM_op1 hn hsh hmk kf ka ha hb ea eb hok (by unfold q_opFit; rw [← z1, ← z2, ← y1, ← y2]; grind)
                      · refine am_bipush (v := (-3)) dM_operation_132 (by decide) ?_
                        refine am_iret (st := []) rfl rfl dM_operation_134 ?_
                        exact ks a b ha hb ea eb hok (by unfold q_opFit; rw [← z1, ← z2, ← y1, ← y2]; grind)
                  · refine am_iload (i := 5) dM_operation_106 rfl ?_
                    refine am_if_eq_T (tgt := 132) dM_operation_108 (by decide) (by decide) ?_
                    refine am_bipush (v := (-3)) dM_operation_132 (by decide) ?_
                    refine am_iret (st := []) rfl rfl dM_operation_134 ?_
                    exact ks a b ha hb ea eb hok (by unfold q_opFit; rw [← z1, ← z2, ← y1, ← y2]; grind)
                · refine am_aload_n (i := 0) dM_operation_78 rfl rfl ?_
                  refine am_getf dM_operation_79 flM_28 (by first | rfl | exact sk8 (by omega) | exact sk9 (by omega) | exact sk10 (by omega) | exact sk11 (by omega)) rfl ?_
                  refine am_iload_n (i := 2) dM_operation_82 rfl rfl ?_
                  refine am_iald dM_operation_83 (by first | rfl | exact sk8 (by omega) | exact sk9 (by omega) | exact sk10 (by omega) | exact sk11 (by omega)) ea (by first | omega | assumption | decide) (by decide) (by decide) (by first | exact congrArg am_I (mkd_lo (by omega)) | exact congrArg am_I (mkd_hi (by omega)) | rfl) ?_
                  refine am_aload_n (i := 0) dM_operation_84 rfl rfl ?_
                  refine am_getf dM_operation_85 flM_28 (by first | rfl | exact sk8 (by omega) | exact sk9 (by omega) | exact sk10 (by omega) | exact sk11 (by omega)) rfl ?_
                  refine am_iload_n (i := 3) dM_operation_88 rfl rfl ?_
                  refine am_iald dM_operation_89 (by first | rfl | exact sk8 (by omega) | exact sk9 (by omega) | exact sk10 (by omega) | exact sk11 (by omega)) eb (by first | omega | assumption | decide) (by decide) (by decide) (by first | exact congrArg am_I (mkd_lo (by omega)) | exact congrArg am_I (mkd_hi (by omega)) | rfl) ?_
                  refine am_icmp_ne (tgt := 97) dM_operation_90 (by decide) (fun c90 => ?_) (fun c90 => ?_)
                  · refine am_iconst (v := 0) dM_operation_97 (by decide) ?_
                    refine am_istore (i := 5) dM_operation_98 (by decide) ?_
                    refine am_iload_n (i := 1) dM_operation_100 rfl rfl ?_
                    refine am_bipush (v := 6) dM_operation_101 (by decide) ?_
                    refine am_icmp_ge (tgt := 111) dM_operation_103 (by decide) (fun c103 => ?_) (fun c103 => ?_)
                    · refine am_iload_n (i := 1) dM_operation_111 rfl rfl ?_
                      refine am_bipush (v := 8) dM_operation_112 (by decide) ?_
                      refine am_icmp_ne (tgt := 135) dM_operation_114 (by decide) (fun c114 => ?_) (fun c114 => ?_)
                      · exact lpM_op1 hn hsh hmk kf ka ha hb ea eb hok (by unfold q_opFit; rw [← z1, ← z2, ← y1, ← y2]; grind)
                      · refine am_aload_n (i := 0) dM_operation_117 rfl rfl ?_
                        refine am_getf dM_operation_118 flM_28 (by first | rfl | exact sk8 (by omega) | exact sk9 (by omega) | exact sk10 (by omega) | exact sk11 (by omega)) rfl ?_
                        refine am_iload_n (i := 2) dM_operation_121 rfl rfl ?_
                        refine am_iald dM_operation_122 (by first | rfl | exact sk8 (by omega) | exact sk9 (by omega) | exact sk10 (by omega) | exact sk11 (by omega)) ea (by first | omega | assumption | decide) (by decide) (by decide) (by first | exact congrArg am_I (mkd_lo (by omega)) | exact congrArg am_I (mkd_hi (by omega)) | rfl) ?_
                        refine am_aload_n (i := 0) dM_operation_123 rfl rfl ?_
                        refine am_getf dM_operation_124 flM_25 (by first | rfl | exact sk8 (by omega) | exact sk9 (by omega) | exact sk10 (by omega) | exact sk11 (by omega)) rfl ?_
                        refine am_iload_n (i := 3) dM_operation_127 rfl rfl ?_
                        refine am_iald dM_operation_128 (by first | rfl | exact sk8 (by omega) | exact sk9 (by omega) | exact sk10 (by omega) | exact sk11 (by omega)) eb (by first | omega | assumption | decide) (by decide) (by decide) (by first | exact congrArg am_I (mkd_lo (by omega)) | exact congrArg am_I (mkd_hi (by omega)) | rfl) ?_
                        refine am_icmp_eq (tgt := 135) dM_operation_129 (by decide) (fun c129 => ?_) (fun c129 => ?_)
                        · exact lpM_op1 hn hsh hmk kf ka ha hb ea eb hok (by unfold q_opFit; rw [← z1, ← z2, ← y1, ← y2]; grind)
                        · refine am_bipush (v := (-3)) dM_operation_132 (by decide) ?_
                          refine am_iret (st := []) rfl rfl dM_operation_134 ?_
                          exact ks a b ha hb ea eb hok (by unfold q_opFit; rw [← z1, ← z2, ← y1, ← y2]; grind)
                    · refine am_iload (i := 5) dM_operation_106 rfl ?_
                      refine am_if_eq_T (tgt := 132) dM_operation_108 (by decide) (by decide) ?_
                      refine am_bipush (v := (-3)) dM_operation_132 (by decide) ?_
                      refine am_iret (st := []) rfl rfl dM_operation_134 ?_
                      exact ks a b ha hb ea eb hok (by unfold q_opFit; rw [← z1, ← z2, ← y1, ← y2]; grind)
                  · refine am_iconst (v := 1) dM_operation_93 (by decide) ?_
                    refine am_goto (tgt := 98) dM_operation_94 (by decide) ?_
                    refine am_istore (i := 5) dM_operation_98 (by decide) ?_
                    refine am_iload_n (i := 1) dM_operation_100 rfl rfl ?_
                    refine am_bipush (v := 6) dM_operation_101 (by decide) ?_
                    refine am_icmp_ge (tgt := 111) dM_operation_103 (by decide) (fun c103 => ?_) (fun c103 => ?_)
                    · refine am_iload_n (i := 1) dM_operation_111 rfl rfl ?_
                      refine am_bipush (v := 8) dM_operation_112 (by decide) ?_
                      refine am_icmp_ne (tgt := 135) dM_operation_114 (by decide) (fun c114 => ?_) (fun c114 => ?_)
                      · exact lpM_op1 hn hsh hmk kf ka ha hb ea eb hok (by unfold q_opFit; rw [← z1, ← z2, ← y1, ← y2]; grind)
                      · refine am_aload_n (i := 0) dM_operation_117 rfl rfl ?_
                        refine am_getf dM_operation_118 flM_28 (by first | rfl | exact sk8 (by omega) | exact sk9 (by omega) | exact sk10 (by omega) | exact sk11 (by omega)) rfl ?_
                        refine am_iload_n (i := 2) dM_operation_121 rfl rfl ?_
                        refine am_iald dM_operation_122 (by first | rfl | exact sk8 (by omega) | exact sk9 (by omega) | exact sk10 (by omega) | exact sk11 (by omega)) ea (by first | omega | assumption | decide) (by decide) (by decide) (by first | exact congrArg am_I (mkd_lo (by omega)) | exact congrArg am_I (mkd_hi (by omega)) | rfl) ?_
                        refine am_aload_n (i := 0) dM_operation_123 rfl rfl ?_
                        refine am_getf dM_operation_124 flM_25 (by first | rfl | exact sk8 (by omega) | exact sk9 (by omega) | exact sk10 (by omega) | exact sk11 (by omega)) rfl ?_
                        refine am_iload_n (i := 3) dM_operation_127 rfl rfl ?_
                        refine am_iald dM_operation_128 (by first | rfl | exact sk8 (by omega) | exact sk9 (by omega) | exact sk10 (by omega) | exact sk11 (by omega)) eb (by first | omega | assumption | decide) (by decide) (by decide) (by first | exact congrArg am_I (mkd_lo (by omega)) | exact congrArg am_I (mkd_hi (by omega)) | rfl) ?_
                        refine am_icmp_eq (tgt := 135) dM_operation_129 (by decide) (fun c129 => ?_) (fun c129 => ?_)
                        · exact lpM_op1 hn hsh hmk kf ka ha hb ea eb hok (by unfold q_opFit; rw [← z1, ← z2, ← y1, ← y2]; grind)
                        · refine am_bipush (v := (-3)) dM_operation_132 (by decide) ?_
                          refine am_iret (st := []) rfl rfl dM_operation_134 ?_
                          exact ks a b ha hb ea eb hok (by unfold q_opFit; rw [← z1, ← z2, ← y1, ← y2]; grind)
                    · refine am_iload (i := 5) dM_operation_106 rfl ?_
                      refine am_if_eq_F (tgt := 132) dM_operation_108 (by decide) (by decide) ?_
                      refine am_iload_n (i := 1) dM_operation_111 rfl rfl ?_
                      refine am_bipush (v := 8) dM_operation_112 (by decide) ?_
                      refine am_icmp_ne (tgt := 135) dM_operation_114 (by decide) (fun c114 => ?_) (fun c114 => ?_)
                      · exact lpM_op1 hn hsh hmk kf ka ha hb ea eb hok (by unfold q_opFit; rw [← z1, ← z2, ← y1, ← y2]; grind)
                      · refine am_aload_n (i := 0) dM_operation_117 rfl rfl ?_
                        refine am_getf dM_operation_118 flM_28 (by first | rfl | exact sk8 (by omega) | exact sk9 (by omega) | exact sk10 (by omega) | exact sk11 (by omega)) rfl ?_
                        refine am_iload_n (i := 2) dM_operation_121 rfl rfl ?_
                        refine am_iald dM_operation_122 (by first | rfl | exact sk8 (by omega) | exact sk9 (by omega) | exact sk10 (by omega) | exact sk11 (by omega)) ea (by first | omega | assumption | decide) (by decide) (by decide) (by first | exact congrArg am_I (mkd_lo (by omega)) | exact congrArg am_I (mkd_hi (by omega)) | rfl) ?_
                        refine am_aload_n (i := 0) dM_operation_123 rfl rfl ?_
                        refine am_getf dM_operation_124 flM_25 (by first | rfl | exact sk8 (by omega) | exact sk9 (by omega) | exact sk10 (by omega) | exact sk11 (by omega)) rfl ?_
                        refine am_iload_n (i := 3) dM_operation_127 rfl rfl ?_
                        refine am_iald dM_operation_128 (by first | rfl | exact sk8 (by omega) | exact sk9 (by omega) | exact sk10 (by omega) | exact sk11 (by omega)) eb (by first | omega | assumption | decide) (by decide) (by decide) (by first | exact congrArg am_I (mkd_lo (by omega)) | exact congrArg am_I (mkd_hi (by omega)) | rfl) ?_
                        refine am_icmp_eq (tgt := 135) dM_operation_129 (by decide) (fun c129 => ?_) (fun c129 => ?_)
                        · exact lpM_op1 hn hsh hmk kf ka ha hb ea eb hok (by unfold q_opFit; rw [← z1, ← z2, ← y1, ← y2]; grind)
                        · refine am_bipush (v := (-3)) dM_operation_132 (by decide) ?_
                          refine am_iret (st := []) rfl rfl dM_operation_134 ?_
                          exact ks a b ha hb ea eb hok (by unfold q_opFit; rw [← z1, ← z2, ← y1, ← y2]; grind)
        · refine am_if_eq_T (tgt := 40) dM_operation_32 (by decide) (by decide) ?_
          refine am_aload_n (i := 0) dM_operation_40 rfl rfl ?_
          refine am_iload (i := 4) dM_operation_41 rfl ?_
          refine am_iconst (v := 0) dM_operation_43 (by decide) ?_
          refine am_iload_n (i := 1) dM_operation_44 rfl rfl ?_
          refine am_bipush (v := 9) dM_operation_45 (by decide) ?_
          refine am_icmp_ne (tgt := 54) dM_operation_47 (by decide) (fun c47 => ?_) (fun c47 => ?_)
          · refine am_iconst (v := 0) dM_operation_54 (by decide) ?_
            refine am_callV (ac' := 0) (as' := 0) (xs := [_, _, _]) dM_operation_55 lkM_61 (by first | rfl | exact sk8 (by omega) | exact sk9 (by omega) | exact sk10 (by omega) | exact sk11 (by omega)) rfl rfl rfl rfl (Nat.le_of_ble_eq_true rfl) rfl rfl (cM_off (fun o55 => ?_) (fun o55 => ?_))
            · refine am_if_eq_F (tgt := 63) dM_operation_58 (by decide) (by decide) ?_
              refine am_iconst (v := (-1)) dM_operation_61 (by decide) ?_
              refine am_iret (st := []) rfl rfl dM_operation_62 ?_
              exact kr (by grind)
            · refine am_if_eq_T (tgt := 63) dM_operation_58 (by decide) (by decide) ?_
              obtain ⟨z1, z2⟩ := hsh a ha
              obtain ⟨y1, y2⟩ := hsh b hb
              have hok : q_opOk n κ xa xb p := ⟨by grind, by grind, ea ▸ q_val_of ha hn, eb ▸ q_val_of hb hn, by grind, by grind, by grind⟩
              have hab : q_one κ → a = b := fun q => nI_inj (by omega) (by omega) (by rw [← ea, ← eb]; exact (hok.2.2.2.2.1 q).symm)
              refine am_aload_n (i := 0) dM_operation_63 rfl rfl ?_
              refine am_getf dM_operation_64 flM_25 (by first | rfl | exact sk8 (by omega) | exact sk9 (by omega) | exact sk10 (by omega) | exact sk11 (by omega)) rfl ?_
              refine am_iload_n (i := 2) dM_operation_67 rfl rfl ?_
              refine am_iald dM_operation_68 (by first | rfl | exact sk8 (by omega) | exact sk9 (by omega) | exact sk10 (by omega) | exact sk11 (by omega)) ea (by first | omega | assumption | decide) (by decide) (by decide) (by first | exact congrArg am_I (mkd_lo (by omega)) | exact congrArg am_I (mkd_hi (by omega)) | rfl) ?_
              refine am_aload_n (i := 0) dM_operation_69 rfl rfl ?_
              refine am_getf dM_operation_70 flM_25 (by first | rfl | exact sk8 (by omega) | exact sk9 (by omega) | exact sk10 (by omega) | exact sk11 (by omega)) rfl ?_
              refine am_iload_n (i := 3) dM_operation_73 rfl rfl ?_
              refine am_iald dM_operation_74 (by first | rfl | exact sk8 (by omega) | exact sk9 (by omega) | exact sk10 (by omega) | exact sk11 (by omega)) eb (by first | omega | assumption | decide) (by decide) (by decide) (by first | exact congrArg am_I (mkd_lo (by omega)) | exact congrArg am_I (mkd_hi (by omega)) | rfl) ?_
              refine am_icmp_ne (tgt := 97) dM_operation_75 (by decide) (fun c75 => ?_) (fun c75 => ?_)
              · refine am_iconst (v := 0) dM_operation_97 (by decide) ?_
                refine am_istore (i := 5) dM_operation_98 (by decide) ?_
                refine am_iload_n (i := 1) dM_operation_100 rfl rfl ?_
                refine am_bipush (v := 6) dM_operation_101 (by decide) ?_
                refine am_icmp_ge (tgt := 111) dM_operation_103 (by decide) (fun c103 => ?_) (fun c103 => ?_)
                · refine am_iload_n (i := 1) dM_operation_111 rfl rfl ?_
                  refine am_bipush (v := 8) dM_operation_112 (by decide) ?_
                  refine am_icmp_ne (tgt := 135) dM_operation_114 (by decide) (fun c114 => ?_) (fun c114 => ?_)
                  · exact lpM_op1 hn hsh hmk kf ka ha hb ea eb hok (by unfold q_opFit; rw [← z1, ← z2, ← y1, ← y2]; grind)
                  · refine am_aload_n (i := 0) dM_operation_117 rfl rfl ?_
                    refine am_getf dM_operation_118 flM_28 (by first | rfl | exact sk8 (by omega) | exact sk9 (by omega) | exact sk10 (by omega) | exact sk11 (by omega)) rfl ?_
                    refine am_iload_n (i := 2) dM_operation_121 rfl rfl ?_
                    refine am_iald dM_operation_122 (by first | rfl | exact sk8 (by omega) | exact sk9 (by omega) | exact sk10 (by omega) | exact sk11 (by omega)) ea (by first | omega | assumption | decide) (by decide) (by decide) (by first | exact congrArg am_I (mkd_lo (by omega)) | exact congrArg am_I (mkd_hi (by omega)) | rfl) ?_
                    refine am_aload_n (i := 0) dM_operation_123 rfl rfl ?_
                    refine am_getf dM_operation_124 flM_25 (by first | rfl | exact sk8 (by omega) | exact sk9 (by omega) | exact sk10 (by omega) | exact sk11 (by omega)) rfl ?_
                    refine am_iload_n (i := 3) dM_operation_127 rfl rfl ?_
                    refine am_iald dM_operation_128 (by first | rfl | exact sk8 (by omega) | exact sk9 (by omega) | exact sk10 (by omega) | exact sk11 (by omega)) eb (by first | omega | assumption | decide) (by decide) (by decide) (by first | exact congrArg am_I (mkd_lo (by omega)) | exact congrArg am_I (mkd_hi (by omega)) | rfl) ?_
                    refine am_icmp_eq (tgt := 135) dM_operation_129 (by decide) (fun c129 => ?_) (fun c129 => ?_)
                    · exact lpM_op1 hn hsh hmk kf ka ha hb ea eb hok (by unfold q_opFit; rw [← z1, ← z2, ← y1, ← y2]; grind)
                    · refine am_bipush (v := (-3)) dM_operation_132 (by decide) ?_
                      refine am_iret (st := []) rfl rfl dM_operation_134 ?_
                      exact ks a b ha hb ea eb hok (by unfold q_opFit; rw [← z1, ← z2, ← y1, ← y2]; grind)
                · refine am_iload (i := 5) dM_operation_106 rfl ?_
                  refine am_if_eq_T (tgt := 132) dM_operation_108 (by decide) (by decide) ?_
                  refine am_bipush (v := (-3)) dM_operation_132 (by decide) ?_
                  refine am_iret (st := []) rfl rfl dM_operation_134 ?_
                  exact ks a b ha hb ea eb hok (by unfold q_opFit; rw [← z1, ← z2, ← y1, ← y2]; grind)
              · refine am_aload_n (i := 0) dM_operation_78 rfl rfl ?_
                refine am_getf dM_operation_79 flM_28 (by first | rfl | exact sk8 (by omega) | exact sk9 (by omega) | exact sk10 (by omega) | exact sk11 (by omega)) rfl ?_
                refine am_iload_n (i := 2) dM_operation_82 rfl rfl ?_
                refine am_iald dM_operation_83 (by first | rfl | exact sk8 (by omega) | exact sk9 (by omega) | exact sk10 (by omega) | exact sk11 (by omega)) ea (by first | omega | assumption | decide) (by decide) (by decide) (by first | exact congrArg am_I (mkd_lo (by omega)) | exact congrArg am_I (mkd_hi (by omega)) | rfl) ?_
                refine am_aload_n (i := 0) dM_operation_84 rfl rfl ?_
                refine am_getf dM_operation_85 flM_28 (by first | rfl | exact sk8 (by omega) | exact sk9 (by omega) | exact sk10 (by omega) | exact sk11 (by omega)) rfl ?_
                refine am_iload_n (i := 3) dM_operation_88 rfl rfl ?_
                refine am_iald dM_operation_89 (by first | rfl | exact sk8 (by omega) | exact sk9 (by omega) | exact sk10 (by omega) | exact sk11 (by omega)) eb (by first | omega | assumption | decide) (by decide) (by decide) (by first | exact congrArg am_I (mkd_lo (by omega)) | exact congrArg am_I (mkd_hi (by omega)) | rfl) ?_
                refine am_icmp_ne (tgt := 97) dM_operation_90 (by decide) (fun c90 => ?_) (fun c90 => ?_)
                · refine am_iconst (v := 0) dM_operation_97 (by decide) ?_
                  refine am_istore (i := 5) dM_operation_98 (by decide) ?_
                  refine am_iload_n (i := 1) dM_operation_100 rfl rfl ?_
                  refine am_bipush (v := 6) dM_operation_101 (by decide) ?_
                  refine am_icmp_ge (tgt := 111) dM_operation_103 (by decide) (fun c103 => ?_) (fun c103 => ?_)
                  · refine am_iload_n (i := 1) dM_operation_111 rfl rfl ?_
                    refine am_bipush (v := 8) dM_operation_112 (by decide) ?_
                    refine am_icmp_ne (tgt := 135) dM_operation_114 (by decide) (fun c114 => ?_) (fun c114 => ?_)
                    · exact lpM_op1 hn hsh hmk kf ka ha hb ea eb hok (by unfold q_opFit; rw [← z1, ← z2, ← y1, ← y2]; grind)
                    · refine am_aload_n (i := 0) dM_operation_117 rfl rfl ?_
                      refine am_getf dM_operation_118 flM_28 (by first | rfl | exact sk8 (by omega) | exact sk9 (by omega) | exact sk10 (by omega) | exact sk11 (by omega)) rfl ?_
                      refine am_iload_n (i := 2) dM_operation_121 rfl rfl ?_
                      refine am_iald dM_operation_122 (by first | rfl | exact sk8 (by omega) | exact sk9 (by omega) | exact sk10 (by omega) | exact sk11 (by omega)) ea (by first | omega | assumption | decide) (by decide) (by decide) (by first | exact congrArg am_I (mkd_lo (by omega)) | exact congrArg am_I (mkd_hi (by omega)) | rfl) ?_
                      refine am_aload_n (i := 0) dM_operation_123 rfl rfl ?_
                      refine am_getf dM_operation_124 flM_25 (by first | rfl | exact sk8 (by omega) | exact sk9 (by omega) | exact sk10 (by omega) | exact sk11 (by omega)) rfl ?_
                      refine am_iload_n (i := 3) dM_operation_127 rfl rfl ?_
                      refine am_iald dM_operation_128 (by first | rfl | exact sk8 (by omega) | exact sk9 (by omega) | exact sk10 (by omega) | exact sk11 (by omega)) eb (by first | omega | assumption | decide) (by decide) (by decide) (by first | exact congrArg am_I (mkd_lo (by omega)) | exact congrArg am_I (mkd_hi (by omega)) | rfl) ?_
                      refine am_icmp_eq (tgt := 135) dM_operation_129 (by decide) (fun c129 => ?_) (fun c129 => ?_)
                      · exact lpM_op1 hn hsh hmk kf ka ha hb ea eb hok (by unfold q_opFit; rw [← z1, ← z2, ← y1, ← y2]; grind)
                      · refine am_bipush (v := (-3)) dM_operation_132 (by decide) ?_
                        refine am_iret (st := []) rfl rfl dM_operation_134 ?_
                        exact ks a b ha hb ea eb hok (by unfold q_opFit; rw [← z1, ← z2, ← y1, ← y2]; grind)
                  · refine am_iload (i := 5) dM_operation_106 rfl ?_
                    refine am_if_eq_T (tgt := 132) dM_operation_108 (by decide) (by decide) ?_
                    refine am_bipush (v := (-3)) dM_operation_132 (by decide) ?_
                    refine am_iret (st := []) rfl rfl dM_operation_134 ?_
                    exact ks a b ha hb ea eb hok (by unfold q_opFit; rw [← z1, ← z2, ← y1, ← y2]; grind)
                · refine am_iconst (v := 1) dM_operation_93 (by decide) ?_
                  refine am_goto (tgt := 98) dM_operation_94 (by decide) ?_
                  refine am_istore (i := 5) dM_operation_98 (by decide) ?_
                  refine am_iload_n (i := 1) dM_operation_100 rfl rfl ?_
                  refine am_bipush (v := 6) dM_operation_101 (by decide) ?_
                  refine am_icmp_ge (tgt := 111) dM_operation_103 (by decide) (fun c103 => ?_) (fun c103 => ?_)
                  · refine am_iload_n (i := 1) dM_operation_111 rfl rfl ?_
                    refine am_bipush (v := 8) dM_operation_112 (by decide) ?_
                    refine am_icmp_ne (tgt := 135) dM_operation_114 (by decide) (fun c114 => ?_) (fun c114 => ?_)
                    · exact lpM_op1 hn hsh hmk kf ka ha hb ea eb hok (by unfold q_opFit; rw [← z1, ← z2, ← y1, ← y2]; grind)
                    · refine am_aload_n (i := 0) dM_operation_117 rfl rfl ?_
                      refine am_getf dM_operation_118 flM_28 (by first | rfl | exact sk8 (by omega) | exact sk9 (by omega) | exact sk10 (by omega) | exact sk11 (by omega)) rfl ?_
                      refine am_iload_n (i := 2) dM_operation_121 rfl rfl ?_
                      refine am_iald dM_operation_122 (by first | rfl | exact sk8 (by omega) | exact sk9 (by omega) | exact sk10 (by omega) | exact sk11 (by omega)) ea (by first | omega | assumption | decide) (by decide) (by decide) (by first | exact congrArg am_I (mkd_lo (by omega)) | exact congrArg am_I (mkd_hi (by omega)) | rfl) ?_
                      refine am_aload_n (i := 0) dM_operation_123 rfl rfl ?_
                      refine am_getf dM_operation_124 flM_25 (by first | rfl | exact sk8 (by omega) | exact sk9 (by omega) | exact sk10 (by omega) | exact sk11 (by omega)) rfl ?_
                      refine am_iload_n (i := 3) dM_operation_127 rfl rfl ?_
                      refine am_iald dM_operation_128 (by first | rfl | exact sk8 (by omega) | exact sk9 (by omega) | exact sk10 (by omega) | exact sk11 (by omega)) eb (by first | omega | assumption | decide) (by decide) (by decide) (by first | exact congrArg am_I (mkd_lo (by omega)) | exact congrArg am_I (mkd_hi (by omega)) | rfl) ?_
                      refine am_icmp_eq (tgt := 135) dM_operation_129 (by decide) (fun c129 => ?_) (fun c129 => ?_)
                      · exact lpM_op1 hn hsh hmk kf ka ha hb ea eb hok (by unfold q_opFit; rw [← z1, ← z2, ← y1, ← y2]; grind)
                      · refine am_bipush (v := (-3)) dM_operation_132 (by decide) ?_
                        refine am_iret (st := []) rfl rfl dM_operation_134 ?_
                        exact ks a b ha hb ea eb hok (by unfold q_opFit; rw [← z1, ← z2, ← y1, ← y2]; grind)
                  · refine am_iload (i := 5) dM_operation_106 rfl ?_
                    refine am_if_eq_F (tgt := 132) dM_operation_108 (by decide) (by decide) ?_
                    refine am_iload_n (i := 1) dM_operation_111 rfl rfl ?_
                    refine am_bipush (v := 8) dM_operation_112 (by decide) ?_
                    refine am_icmp_ne (tgt := 135) dM_operation_114 (by decide) (fun c114 => ?_) (fun c114 => ?_)
                    · exact lpM_op1 hn hsh hmk kf ka ha hb ea eb hok (by unfold q_opFit; rw [← z1, ← z2, ← y1, ← y2]; grind)
                    · refine am_aload_n (i := 0) dM_operation_117 rfl rfl ?_
                      refine am_getf dM_operation_118 flM_28 (by first | rfl | exact sk8 (by omega) | exact sk9 (by omega) | exact sk10 (by omega) | exact sk11 (by omega)) rfl ?_
                      refine am_iload_n (i := 2) dM_operation_121 rfl rfl ?_
                      refine am_iald dM_operation_122 (by first | rfl | exact sk8 (by omega) | exact sk9 (by omega) | exact sk10 (by omega) | exact sk11 (by omega)) ea (by first | omega | assumption | decide) (by decide) (by decide) (by first | exact congrArg am_I (mkd_lo (by omega)) | exact congrArg am_I (mkd_hi (by omega)) | rfl) ?_
                      refine am_aload_n (i := 0) dM_operation_123 rfl rfl ?_
                      refine am_getf dM_operation_124 flM_25 (by first | rfl | exact sk8 (by omega) | exact sk9 (by omega) | exact sk10 (by omega) | exact sk11 (by omega)) rfl ?_
                      refine am_iload_n (i := 3) dM_operation_127 rfl rfl ?_
                      refine am_iald dM_operation_128 (by first | rfl | exact sk8 (by omega) | exact sk9 (by omega) | exact sk10 (by omega) | exact sk11 (by omega)) eb (by first | omega | assumption | decide) (by decide) (by decide) (by first | exact congrArg am_I (mkd_lo (by omega)) | exact congrArg am_I (mkd_hi (by omega)) | rfl) ?_
                      refine am_icmp_eq (tgt := 135) dM_operation_129 (by decide) (fun c129 => ?_) (fun c129 => ?_)
                      · exact lpM_op1 hn hsh hmk kf ka ha hb ea eb hok (by unfold q_opFit; rw [← z1, ← z2, ← y1, ← y2]; grind)
                      · refine am_bipush (v := (-3)) dM_operation_132 (by decide) ?_
                        refine am_iret (st := []) rfl rfl dM_operation_134 ?_
                        exact ks a b ha hb ea eb hok (by unfold q_opFit; rw [← z1, ← z2, ← y1, ← y2]; grind)
          · refine am_iconst (v := 1) dM_operation_50 (by decide) ?_
            refine am_goto (tgt := 55) dM_operation_51 (by decide) ?_
            refine am_callV (ac' := 0) (as' := 0) (xs := [_, _, _]) dM_operation_55 lkM_61 (by first | rfl | exact sk8 (by omega) | exact sk9 (by omega) | exact sk10 (by omega) | exact sk11 (by omega)) rfl rfl rfl rfl (Nat.le_of_ble_eq_true rfl) rfl rfl (cM_off (fun o55 => ?_) (fun o55 => ?_))
            · refine am_if_eq_F (tgt := 63) dM_operation_58 (by decide) (by decide) ?_
              refine am_iconst (v := (-1)) dM_operation_61 (by decide) ?_
              refine am_iret (st := []) rfl rfl dM_operation_62 ?_
              exact kr (by grind)
            · refine am_if_eq_T (tgt := 63) dM_operation_58 (by decide) (by decide) ?_
              obtain ⟨z1, z2⟩ := hsh a ha
              obtain ⟨y1, y2⟩ := hsh b hb
              have hok : q_opOk n κ xa xb p := ⟨by grind, by grind, ea ▸ q_val_of ha hn, eb ▸ q_val_of hb hn, by grind, by grind, by grind⟩
              have hab : q_one κ → a = b := fun q => nI_inj (by omega) (by omega) (by rw [← ea, ← eb]; exact (hok.2.2.2.2.1 q).symm)
              refine am_aload_n (i := 0) dM_operation_63 rfl rfl ?_
              refine am_getf dM_operation_64 flM_25 (by first | rfl | exact sk8 (by omega) | exact sk9 (by omega) | exact sk10 (by omega) | exact sk11 (by omega)) rfl ?_
              refine am_iload_n (i := 2) dM_operation_67 rfl rfl ?_
              refine am_iald dM_operation_68 (by first | rfl | exact sk8 (by omega) | exact sk9 (by omega) | exact sk10 (by omega) | exact sk11 (by omega)) ea (by first | omega | assumption | decide) (by decide) (by decide) (by first | exact congrArg am_I (mkd_lo (by omega)) | exact congrArg am_I (mkd_hi (by omega)) | rfl) ?_
              refine am_aload_n (i := 0) dM_operation_69 rfl rfl ?_
              refine am_getf dM_operation_70 flM_25 (by first | rfl | exact sk8 (by omega) | exact sk9 (by omega) | exact sk10 (by omega) | exact sk11 (by omega)) rfl ?_
              refine am_iload_n (i := 3) dM_operation_73 rfl rfl ?_
              refine am_iald dM_operation_74 (by first | rfl | exact sk8 (by omega) | exact sk9 (by omega) | exact sk10 (by omega) | exact sk11 (by omega)) eb (by first | omega | assumption | decide) (by decide) (by decide) (by first | exact congrArg am_I (mkd_lo (by omega)) | exact congrArg am_I (mkd_hi (by omega)) | rfl) ?_
              refine am_icmp_ne (tgt := 97) dM_operation_75 (by decide) (fun c75 => ?_) (fun c75 => ?_)
              · refine am_iconst (v := 0) dM_operation_97 (by decide) ?_
                refine am_istore (i := 5) dM_operation_98 (by decide) ?_
                refine am_iload_n (i := 1) dM_operation_100 rfl rfl ?_
                refine am_bipush (v := 6) dM_operation_101 (by decide) ?_
                refine am_icmp_ge (tgt := 111) dM_operation_103 (by decide) (fun c103 => ?_) (fun c103 => ?_)
                · refine am_iload_n (i := 1) dM_operation_111 rfl rfl ?_
                  refine am_bipush (v := 8) dM_operation_112 (by decide) ?_
                  refine am_icmp_ne (tgt := 135) dM_operation_114 (by decide) (fun c114 => ?_) (fun c114 => ?_)
                  · exact lpM_op1 hn hsh hmk kf ka ha hb ea eb hok (by unfold q_opFit; rw [← z1, ← z2, ← y1, ← y2]; grind)
                  · refine am_aload_n (i := 0) dM_operation_117 rfl rfl ?_
                    refine am_getf dM_operation_118 flM_28 (by first | rfl | exact sk8 (by omega) | exact sk9 (by omega) | exact sk10 (by omega) | exact sk11 (by omega)) rfl ?_
                    refine am_iload_n (i := 2) dM_operation_121 rfl rfl ?_
                    refine am_iald dM_operation_122 (by first | rfl | exact sk8 (by omega) | exact sk9 (by omega) | exact sk10 (by omega) | exact sk11 (by omega)) ea (by first | omega | assumption | decide) (by decide) (by decide) (by first | exact congrArg am_I (mkd_lo (by omega)) | exact congrArg am_I (mkd_hi (by omega)) | rfl) ?_
                    refine am_aload_n (i := 0) dM_operation_123 rfl rfl ?_
                    refine am_getf dM_operation_124 flM_25 (by first | rfl | exact sk8 (by omega) | exact sk9 (by omega) | exact sk10 (by omega) | exact sk11 (by omega)) rfl ?_
                    refine am_iload_n (i := 3) dM_operation_127 rfl rfl ?_
                    refine am_iald dM_operation_128 (by first | rfl | exact sk8 (by omega) | exact sk9 (by omega) | exact sk10 (by omega) | exact sk11 (by omega)) eb (by first | omega | assumption | decide) (by decide) (by decide) (by first | exact congrArg am_I (mkd_lo (by omega)) | exact congrArg am_I (mkd_hi (by omega)) | rfl) ?_
                    refine am_icmp_eq (tgt := 135) dM_operation_129 (by decide) (fun c129 => ?_) (fun c129 => ?_)
                    · exact lpM_op1 hn hsh hmk kf ka ha hb ea eb hok (by unfold q_opFit; rw [← z1, ← z2, ← y1, ← y2]; grind)
                    · refine am_bipush (v := (-3)) dM_operation_132 (by decide) ?_
                      refine am_iret (st := []) rfl rfl dM_operation_134 ?_
                      exact ks a b ha hb ea eb hok (by unfold q_opFit; rw [← z1, ← z2, ← y1, ← y2]; grind)
                · refine am_iload (i := 5) dM_operation_106 rfl ?_
                  refine am_if_eq_T (tgt := 132) dM_operation_108 (by decide) (by decide) ?_
                  refine am_bipush (v := (-3)) dM_operation_132 (by decide) ?_
                  refine am_iret (st := []) rfl rfl dM_operation_134 ?_
                  exact ks a b ha hb ea eb hok (by unfold q_opFit; rw [← z1, ← z2, ← y1, ← y2]; grind)
              · refine am_aload_n (i := 0) dM_operation_78 rfl rfl ?_
                refine am_getf dM_operation_79 flM_28 (by first | rfl | exact sk8 (by omega) | exact sk9 (by omega) | exact sk10 (by omega) | exact sk11 (by omega)) rfl ?_
                refine am_iload_n (i := 2) dM_operation_82 rfl rfl ?_
                refine am_iald dM_operation_83 (by first | rfl | exact sk8 (by omega) | exact sk9 (by omega) | exact sk10 (by omega) | exact sk11 (by omega)) ea (by first | omega | assumption | decide) (by decide) (by decide) (by first | exact congrArg am_I (mkd_lo (by omega)) | exact congrArg am_I (mkd_hi (by omega)) | rfl) ?_
                refine am_aload_n (i := 0) dM_operation_84 rfl rfl ?_
                refine am_getf dM_operation_85 flM_28 (by first | rfl | exact sk8 (by omega) | exact sk9 (by omega) | exact sk10 (by omega) | exact sk11 (by omega)) rfl ?_
                refine am_iload_n (i := 3) dM_operation_88 rfl rfl ?_
                refine am_iald dM_operation_89 (by first | rfl | exact sk8 (by omega) | exact sk9 (by omega) | exact sk10 (by omega) | exact sk11 (by omega)) eb (by first | omega | assumption | decide) (by decide) (by decide) (by first | exact congrArg am_I (mkd_lo (by omega)) | exact congrArg am_I (mkd_hi (by omega)) | rfl) ?_
                refine am_icmp_ne (tgt := 97) dM_operation_90 (by decide) (fun c90 => ?_) (fun c90 => ?_)
                · refine am_iconst (v := 0) dM_operation_97 (by decide) ?_
                  refine am_istore (i := 5) dM_operation_98 (by decide) ?_
                  refine am_iload_n (i := 1) dM_operation_100 rfl rfl ?_
                  refine am_bipush (v := 6) dM_operation_101 (by decide) ?_
                  refine am_icmp_ge (tgt := 111) dM_operation_103 (by decide) (fun c103 => ?_) (fun c103 => ?_)
                  · refine am_iload_n (i := 1) dM_operation_111 rfl rfl ?_
                    refine am_bipush (v := 8) dM_operation_112 (by decide) ?_
                    refine am_icmp_ne (tgt := 135) dM_operation_114 (by decide) (fun c114 => ?_) (fun c114 => ?_)
                    · exact lpM_op1 hn hsh hmk kf ka ha hb ea eb hok (by unfold q_opFit; rw [← z1, ← z2, ← y1, ← y2]; grind)
                    · refine am_aload_n (i := 0) dM_operation_117 rfl rfl ?_
                      refine am_getf dM_operation_118 flM_28 (by first | rfl | exact sk8 (by omega) | exact sk9 (by omega) | exact sk10 (by omega) | exact sk11 (by omega)) rfl ?_
                      refine am_iload_n (i := 2) dM_operation_121 rfl rfl ?_
                      refine am_iald dM_operation_122 (by first | rfl | exact sk8 (by omega) | exact sk9 (by omega) | exact sk10 (by omega) | exact sk11 (by omega)) ea (by first | omega | assumption | decide) (by decide) (by decide) (by first | exact congrArg am_I (mkd_lo (by omega)) | exact congrArg am_I (mkd_hi (by omega)) | rfl) ?_
                      refine am_aload_n (i := 0) dM_operation_123 rfl rfl ?_
                      refine am_getf dM_operation_124 flM_25 (by first | rfl | exact sk8 (by omega) | exact sk9 (by omega) | exact sk10 (by omega) | exact sk11 (by omega)) rfl ?_
                      refine am_iload_n (i := 3) dM_operation_127 rfl rfl ?_
                      refine am_iald dM_operation_128 (by first | rfl | exact sk8 (by omega) | exact sk9 (by omega) | exact sk10 (by omega) | exact sk11 (by omega)) eb (by first | omega | assumption | decide) (by decide) (by decide) (by first | exact congrArg am_I (mkd_lo (by omega)) | exact congrArg am_I (mkd_hi (by omega)) | rfl) ?_
                      refine am_icmp_eq (tgt := 135) dM_operation_129 (by decide) (fun c129 => ?_) (fun c129 => ?_)
                      · exact lpM_op1 hn hsh hmk kf ka ha hb ea eb hok (by unfold q_opFit; rw [← z1, ← z2, ← y1, ← y2]; grind)
                      · refine am_bipush (v := (-3)) dM_operation_132 (by decide) ?_
                        refine am_iret (st := []) rfl rfl dM_operation_134 ?_
                        exact ks a b ha hb ea eb hok (by unfold q_opFit; rw [← z1, ← z2, ← y1, ← y2]; grind)
                  · refine am_iload (i := 5) dM_operation_106 rfl ?_
                    refine am_if_eq_T (tgt := 132) dM_operation_108 (by decide) (by decide) ?_
                    refine am_bipush (v := (-3)) dM_operation_132 (by decide) ?_
                    refine am_iret (st := []) rfl rfl dM_operation_134 ?_
                    exact ks a b ha hb ea eb hok (by unfold q_opFit; rw [← z1, ← z2, ← y1, ← y2]; grind)
                · refine am_iconst (v := 1) dM_operation_93 (by decide) ?_
                  refine am_goto (tgt := 98) dM_operation_94 (by decide) ?_
                  refine am_istore (i := 5) dM_operation_98 (by decide) ?_
                  refine am_iload_n (i := 1) dM_operation_100 rfl rfl ?_
                  refine am_bipush (v := 6) dM_operation_101 (by decide) ?_
                  refine am_icmp_ge (tgt := 111) dM_operation_103 (by decide) (fun c103 => ?_) (fun c103 => ?_)
                  · refine am_iload_n (i := 1) dM_operation_111 rfl rfl ?_
                    refine am_bipush (v := 8) dM_operation_112 (by decide) ?_
                    refine am_icmp_ne (tgt := 135) dM_operation_114 (by decide) (fun c114 => ?_) (fun c114 => ?_)
                    · exact lpM_op1 hn hsh hmk kf ka ha hb ea eb hok (by unfold q_opFit; rw [← z1, ← z2, ← y1, ← y2]; grind)
                    · refine am_aload_n (i := 0) dM_operation_117 rfl rfl ?_
                      refine am_getf dM_operation_118 flM_28 (by first | rfl | exact sk8 (by omega) | exact sk9 (by omega) | exact sk10 (by omega) | exact sk11 (by omega)) rfl ?_
                      refine am_iload_n (i := 2) dM_operation_121 rfl rfl ?_
                      refine am_iald dM_operation_122 (by first | rfl | exact sk8 (by omega) | exact sk9 (by omega) | exact sk10 (by omega) | exact sk11 (by omega)) ea (by first | omega | assumption | decide) (by decide) (by decide) (by first | exact congrArg am_I (mkd_lo (by omega)) | exact congrArg am_I (mkd_hi (by omega)) | rfl) ?_
                      refine am_aload_n (i := 0) dM_operation_123 rfl rfl ?_
                      refine am_getf dM_operation_124 flM_25 (by first | rfl | exact sk8 (by omega) | exact sk9 (by omega) | exact sk10 (by omega) | exact sk11 (by omega)) rfl ?_
                      refine am_iload_n (i := 3) dM_operation_127 rfl rfl ?_
                      refine am_iald dM_operation_128 (by first | rfl | exact sk8 (by omega) | exact sk9 (by omega) | exact sk10 (by omega) | exact sk11 (by omega)) eb (by first | omega | assumption | decide) (by decide) (by decide) (by first | exact congrArg am_I (mkd_lo (by omega)) | exact congrArg am_I (mkd_hi (by omega)) | rfl) ?_
                      refine am_icmp_eq (tgt := 135) dM_operation_129 (by decide) (fun c129 => ?_) (fun c129 => ?_)
                      · exact lpM_op1 hn hsh hmk kf ka ha hb ea eb hok (by unfold q_opFit; rw [← z1, ← z2, ← y1, ← y2]; grind)
                      · refine am_bipush (v := (-3)) dM_operation_132 (by decide) ?_
                        refine am_iret (st := []) rfl rfl dM_operation_134 ?_
                        exact ks a b ha hb ea eb hok (by unfold q_opFit; rw [← z1, ← z2, ← y1, ← y2]; grind)
                  · refine am_iload (i := 5) dM_operation_106 rfl ?_
                    refine am_if_eq_F (tgt := 132) dM_operation_108 (by decide) (by decide) ?_
                    refine am_iload_n (i := 1) dM_operation_111 rfl rfl ?_
                    refine am_bipush (v := 8) dM_operation_112 (by decide) ?_
                    refine am_icmp_ne (tgt := 135) dM_operation_114 (by decide) (fun c114 => ?_) (fun c114 => ?_)
                    · exact lpM_op1 hn hsh hmk kf ka ha hb ea eb hok (by unfold q_opFit; rw [← z1, ← z2, ← y1, ← y2]; grind)
                    · refine am_aload_n (i := 0) dM_operation_117 rfl rfl ?_
                      refine am_getf dM_operation_118 flM_28 (by first | rfl | exact sk8 (by omega) | exact sk9 (by omega) | exact sk10 (by omega) | exact sk11 (by omega)) rfl ?_
                      refine am_iload_n (i := 2) dM_operation_121 rfl rfl ?_
                      refine am_iald dM_operation_122 (by first | rfl | exact sk8 (by omega) | exact sk9 (by omega) | exact sk10 (by omega) | exact sk11 (by omega)) ea (by first | omega | assumption | decide) (by decide) (by decide) (by first | exact congrArg am_I (mkd_lo (by omega)) | exact congrArg am_I (mkd_hi (by omega)) | rfl) ?_
                      refine am_aload_n (i := 0) dM_operation_123 rfl rfl ?_
                      refine am_getf dM_operation_124 flM_25 (by first | rfl | exact sk8 (by omega) | exact sk9 (by omega) | exact sk10 (by omega) | exact sk11 (by omega)) rfl ?_
                      refine am_iload_n (i := 3) dM_operation_127 rfl rfl ?_
                      refine am_iald dM_operation_128 (by first | rfl | exact sk8 (by omega) | exact sk9 (by omega) | exact sk10 (by omega) | exact sk11 (by omega)) eb (by first | omega | assumption | decide) (by decide) (by decide) (by first | exact congrArg am_I (mkd_lo (by omega)) | exact congrArg am_I (mkd_hi (by omega)) | rfl) ?_
                      refine am_icmp_eq (tgt := 135) dM_operation_129 (by decide) (fun c129 => ?_) (fun c129 => ?_)
                      · exact lpM_op1 hn hsh hmk kf ka ha hb ea eb hok (by unfold q_opFit; rw [← z1, ← z2, ← y1, ← y2]; grind)
                      · refine am_bipush (v := (-3)) dM_operation_132 (by decide) ?_
                        refine am_iret (st := []) rfl rfl dM_operation_134 ?_
                        exact ks a b ha hb ea eb hok (by unfold q_opFit; rw [← z1, ← z2, ← y1, ← y2]; grind)
