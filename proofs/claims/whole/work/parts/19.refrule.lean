/-! ===== the reference: rules ===== -/
theorem q_arg_ne {x : Int32} {v : Nat} (h : q_arg x v) (hn : ¬ x = -1) (hv : v ≤ 28) : ¬ x = nI v := fun q => by
  obtain ⟨g, e⟩ := h.ix hn hv
  rw [e] at q
  have := nI_inj (by omega) (by omega) q
  omega
theorem q_res10 {x : Int32} (h : q_kind x) (h10 : ¬ x < 10) : q_res x := by
  obtain ⟨κ, a, e⟩ := h
  have : ¬ κ < 10 := fun q => h10 (by rw [e]; exact (nI_lt' (b := 10) (by omega) (by omega)).mpr q)
  rw [e]
  match κ, this, a with
  | 10, _, _ => exact Or.inl rfl
  | 11, _, _ => exact Or.inr (Or.inl rfl)
  | 12, _, _ => exact Or.inr (Or.inr rfl)
  | k + 13, _, a => omega
  | 0, h, _ => omega
  | 1, h, _ => omega
  | 2, h, _ => omega
  | 3, h, _ => omega
  | 4, h, _ => omega
  | 5, h, _ => omega
  | 6, h, _ => omega
  | 7, h, _ => omega
  | 8, h, _ => omega
  | 9, h, _ => omega
theorem q_neu34 {x : Int32} (h : x = 3 ∨ x = 4) : x - 3 = if x = 3 then 0 else 1 := by
  rcases h with rfl | rfl <;> decide
theorem q_tab0 {P : Nat → Nat → Int32} {v : Nat} (h : q_rul P v = 0 ∨ q_rul P v = 2 ∨ q_rul P v = 4) : q_tab P v = P := by
  unfold q_tab
  rw [if_neg (by omega), if_neg (by omega), if_neg (fun q => by omega)]
theorem q_dir0 {P : Nat → Nat → Int32} {v : Nat} (h : q_rul P v = 0 ∨ q_rul P v = 1 ∨ q_rul P v = 3) : q_dir P v = -1 := by
  unfold q_dir
  rw [if_neg (by omega), if_neg (by omega), if_neg (fun q => by omega)]
theorem q_dir2 {P : Nat → Nat → Int32} {v : Nat} (h : q_rul P v = 2) : q_dir P v = q_neut P v := by
  unfold q_dir
  rw [if_pos h]
theorem q_dir4 {P : Nat → Nat → Int32} {v : Nat} (h : q_rul P v = 4) : q_dir P v = P v 3 := by
  unfold q_dir
  rw [if_neg (by omega), if_pos h]
theorem q_dir5 {P : Nat → Nat → Int32} {v : Nat} (h : q_rul P v = 5) (hs : q_shp P v (ix (q_twi P v))) : q_dir P v = q_twi P v := by
  unfold q_dir
  rw [if_neg (by omega), if_neg (by omega), if_pos ⟨h, hs⟩]
theorem q_dir5n {P : Nat → Nat → Int32} {v : Nat} (h : q_rul P v = 5) (hs : ¬ q_shp P v (ix (q_twi P v))) : q_dir P v = -1 := by
  unfold q_dir
  rw [if_neg (by omega), if_neg (by omega), if_neg (fun q => hs q.2)]
theorem k2_n {k : Int32} (j : Int32) (h : ¬ 2 < k) (hj : (2 : Int32) < j) : ¬ k = j := fun q => h (q ▸ hj)
/-- a value without arguments: no rule -/
theorem ru_leaf {P : Nat → Nat → Int32} {v : Nat} (h : P v 3 = -1) (hk : ¬ 2 < P v 0) : q_rul P v = 0 := by
  have n3 := k2_n 3 hk (by decide)
  have n4 := k2_n 4 hk (by decide)
  have n5 := k2_n 5 hk (by decide)
  have n6 := k2_n 6 hk (by decide)
  have n7 := k2_n 7 hk (by decide)
  have n10 := k2_n 10 hk (by decide)
  have n11 := k2_n 11 hk (by decide)
  have n12 := k2_n 12 hk (by decide)
  refine ru0 (fun q => q.1 h) ?_ (fun q => n4 q.1) (fun q => n5 q.1) ?_
  · unfold q_neut
    rw [if_neg (fun q => by rcases q with q | q | q <;> contradiction), if_pos (fun q => by rcases q with q | q <;> contradiction)]
  · unfold q_twi
    rw [if_neg (fun q => by rcases q with q | q | q <;> contradiction)]
set_option maxRecDepth 100000 in
set_option maxHeartbeats 4000000 in
theorem cM_rule {g : am_G} {d : Nat} {Q : Option am_V → am_H → Prop} {X : Nat → Nat → Nat → am_V} {A P : Nat → Nat → Int32} {st mk pa ce wd us : Nat → Int32} {si : Int32} {n : Nat} {v : Nat} (hn : n ≤ 28) (hP : ∀ u, u < n → q_ok P u) (hv : v < n) (hst : st v = nI v) (k : ∀ r T S, r = nI (q_rul P v) → T = q_tab P v → (S = if q_dir P v = -1 then st else upd st v (q_dir P v)) → Q (some (am_I r)) (hm X (ym A T S mk pa ce wd us (nI n) si))) : am_C g mM_rule (d + 1) 0 0 [am_O 20 0, am_I (nI v)] (hm X (ym A P st mk pa ce wd us (nI n) si)) Q := by
  refine am_enter (lv := [some (am_O 20 0), some (am_I (nI v)), none, none, none, none]) rfl rfl (am_cat1 rfl) (Nat.le_of_ble_eq_true rfl) ?_
  obtain ⟨⟨b3, b4, b5, b6⟩, hc, hkd, -⟩ := hP v hv
  refine am_aload_n (i := 0) dM_rule_0 rfl rfl ?_
  refine am_getf dM_rule_1 flM_13 (by first | rfl | exact sk8 (by omega) | exact sk9 (by omega) | exact sk10 (by omega) | exact sk11 (by omega)) rfl ?_
  refine am_iload_n (i := 1) dM_rule_4 rfl rfl ?_
  refine am_iald dM_rule_5 (by first | rfl | exact sk8 (by omega) | exact sk9 (by omega) | exact sk10 (by omega) | exact sk11 (by omega)) rfl (by first | omega | assumption | decide) (by decide) (by decide) (by first | exact congrArg am_I (mkd_lo (by omega)) | exact congrArg am_I (mkd_hi (by omega)) | rfl) ?_
  refine am_istore_n (i := 2) dM_rule_6 rfl (by decide) ?_
  refine am_aload_n (i := 0) dM_rule_7 rfl rfl ?_
  refine am_getf dM_rule_8 flM_16 (by first | rfl | exact sk8 (by omega) | exact sk9 (by omega) | exact sk10 (by omega) | exact sk11 (by omega)) rfl ?_
  refine am_iload_n (i := 1) dM_rule_11 rfl rfl ?_
  refine am_iald dM_rule_12 (by first | rfl | exact sk8 (by omega) | exact sk9 (by omega) | exact sk10 (by omega) | exact sk11 (by omega)) rfl (by first | omega | assumption | decide) (by decide) (by decide) (by first | exact congrArg am_I (mkd_lo (by omega)) | exact congrArg am_I (mkd_hi (by omega)) | rfl) ?_
  refine am_istore_n (i := 3) dM_rule_13 rfl (by decide) ?_
  refine am_aload_n (i := 0) dM_rule_14 rfl rfl ?_
  refine am_getf dM_rule_15 flM_7 (by first | rfl | exact sk8 (by omega) | exact sk9 (by omega) | exact sk10 (by omega) | exact sk11 (by omega)) rfl ?_
  refine am_iload_n (i := 1) dM_rule_18 rfl rfl ?_
  refine am_iald dM_rule_19 (by first | rfl | exact sk8 (by omega) | exact sk9 (by omega) | exact sk10 (by omega) | exact sk11 (by omega)) rfl (by first | omega | assumption | decide) (by decide) (by decide) (by first | exact congrArg am_I (mkd_lo (by omega)) | exact congrArg am_I (mkd_hi (by omega)) | rfl) ?_
  refine am_istore (i := 4) dM_rule_20 (by decide) ?_
  refine am_iload_n (i := 2) dM_rule_22 rfl rfl ?_
  refine am_if_ge (tgt := 28) dM_rule_23 (by decide) (fun c23 => ?_) (fun c23 => ?_)
  · have n3 : ¬ P v 3 = -1 := fun q => absurd c23 ((q_arg_neg b3 (by omega)).2.mpr q)
    obtain ⟨g3, e3⟩ := b3.ix n3 (by omega)
    refine am_aload_n (i := 0) dM_rule_28 rfl rfl ?_
    refine am_getf dM_rule_29 flM_7 (by first | rfl | exact sk8 (by omega) | exact sk9 (by omega) | exact sk10 (by omega) | exact sk11 (by omega)) rfl ?_
    refine am_iload_n (i := 2) dM_rule_32 rfl rfl ?_
    refine am_iald dM_rule_33 (by first | rfl | exact sk8 (by omega) | exact sk9 (by omega) | exact sk10 (by omega) | exact sk11 (by omega)) e3 (by first | omega | assumption | decide) (by decide) (by decide) (by first | exact congrArg am_I (mkd_lo (by omega)) | exact congrArg am_I (mkd_hi (by omega)) | rfl) ?_
    refine am_iconst (v := 1) dM_rule_34 (by decide) ?_
    refine am_icmp_ne (tgt := 64) dM_rule_35 (by decide) (fun c35 => ?_) (fun c35 => ?_)
    · refine am_iload (i := 4) dM_rule_64 rfl ?_
      refine am_iconst (v := 3) dM_rule_66 (by decide) ?_
      refine am_icmp_eq (tgt := 76) dM_rule_67 (by decide) (fun c67 => ?_) (fun c67 => ?_)
      · have h34 : P v 0 = 3 ∨ P v 0 = 4 := by first | exact Or.inl c67 | exact Or.inr c73
        have n4 : ¬ P v 4 = -1 := b6 (by grind)
        obtain ⟨g4, e4⟩ := b4.ix n4 (by omega)
        refine am_iload (i := 4) dM_rule_76 rfl ?_
        refine am_iconst (v := 3) dM_rule_78 (by decide) ?_
        refine am_isub dM_rule_79 ?_
        refine am_sT (st' := am_I (if P v 0 = 3 then 0 else 1) :: _) (congrArg (fun z => am_I z :: _) (q_neu34 h34)) ?_
        refine am_istore (i := 5) dM_rule_80 (by decide) ?_
        refine am_aload_n (i := 0) dM_rule_82 rfl rfl ?_
        refine am_iload_n (i := 2) dM_rule_83 rfl rfl ?_
        refine am_iload (i := 5) dM_rule_84 rfl ?_
        refine am_callV (ac' := 0) (as' := 0) (xs := [_, _]) dM_rule_86 lkM_84 (by first | rfl | exact sk8 (by omega) | exact sk9 (by omega) | exact sk10 (by omega) | exact sk11 (by omega)) rfl rfl rfl rfl (Nat.le_of_ble_eq_true rfl) rfl rfl (cM_splat (by omega) e3 (fun ca => ?_) (fun ca => ?_))
        · refine am_if_eq_F (tgt := 102) dM_rule_89 (by decide) (by decide) ?_
          refine am_aload_n (i := 0) dM_rule_92 rfl rfl ?_
          refine am_getf dM_rule_93 flM_35 (by first | rfl | exact sk8 (by omega) | exact sk9 (by omega) | exact sk10 (by omega) | exact sk11 (by omega)) rfl ?_
          refine am_iload_n (i := 1) dM_rule_96 rfl rfl ?_
          refine am_iload_n (i := 3) dM_rule_97 rfl rfl ?_
          refine am_iast' dM_rule_98 (by first | rfl | exact sk8 (by omega) | exact sk9 (by omega) | exact sk10 (by omega) | exact sk11 (by omega)) rfl (by first | omega | assumption | decide) (by decide) (by decide) (by first | exact wm_kd (by omega) | exact wm_kh (by omega) | exact wm_fi (by omega) | exact wm_fh (by omega) | exact wm_se (by omega) | exact wm_sh (by omega) | exact wm_np (by omega) | exact wm_ph (by omega) | exact wm_nq (by omega) | exact wm_qh (by omega) | exact wm_ro | exact wm_co | exact wm_mm | exact wm_sd | exact wm_pa | exact wm_ce | exact wm_wd | exact wm_ud | exact wm_vn | exact wm_sm) ?_
          refine am_goto (tgt := 119) dM_rule_99 (by decide) ?_
          refine am_iload (i := 4) dM_rule_119 rfl ?_
          refine am_bipush (v := 10) dM_rule_121 (by decide) ?_
          refine am_icmp_lt_T (tgt := 142) dM_rule_123 (by decide) (by rw [c67]; decide) ?_
          refine am_aload_n (i := 0) dM_rule_142 rfl rfl ?_
          refine am_getf dM_rule_143 flM_35 (by first | rfl | exact sk8 (by omega) | exact sk9 (by omega) | exact sk10 (by omega) | exact sk11 (by omega)) rfl ?_
          refine am_iload_n (i := 1) dM_rule_146 rfl rfl ?_
          refine am_iald dM_rule_147 (by first | rfl | exact sk8 (by omega) | exact sk9 (by omega) | exact sk10 (by omega) | exact sk11 (by omega)) rfl (by first | omega | assumption | decide) (by decide) (by decide) (by first | exact congrArg am_I (upd_eq _ _ _) | rfl) ?_
          refine am_iload_n (i := 1) dM_rule_148 rfl rfl ?_
          refine am_icmp_eq_F (tgt := 154) dM_rule_149 (by decide) (q_arg_ne b4 n4 (by omega)) ?_
          refine am_iconst (v := 2) dM_rule_152 (by decide) ?_
          refine am_iret (st := []) rfl rfl dM_rule_153 ?_
          have co : ¬ q_only P v := by grind
          have en : q_neut P v = P v 4 := by unfold q_neut; grind
          have hr := ru2 co (by rw [en]; exact n4)
          exact k _ _ _ (by rw [hr]; rfl) (q_tab0 (Or.inr (Or.inl hr))).symm (by rw [q_dir2 hr, en, if_neg n4])
        · refine am_if_eq_T (tgt := 102) dM_rule_89 (by decide) (by decide) ?_
          refine am_aload_n (i := 0) dM_rule_102 rfl rfl ?_
          refine am_iload_n (i := 3) dM_rule_103 rfl rfl ?_
          refine am_iload (i := 5) dM_rule_104 rfl ?_
          refine am_callV (ac' := 0) (as' := 0) (xs := [_, _]) dM_rule_106 lkM_84 (by first | rfl | exact sk8 (by omega) | exact sk9 (by omega) | exact sk10 (by omega) | exact sk11 (by omega)) rfl rfl rfl rfl (Nat.le_of_ble_eq_true rfl) rfl rfl (cM_splat (by omega) e4 (fun cb => ?_) (fun cb => ?_))
          · refine am_if_eq_F (tgt := 119) dM_rule_109 (by decide) (by decide) ?_
            refine am_aload_n (i := 0) dM_rule_112 rfl rfl ?_
            refine am_getf dM_rule_113 flM_35 (by first | rfl | exact sk8 (by omega) | exact sk9 (by omega) | exact sk10 (by omega) | exact sk11 (by omega)) rfl ?_
            refine am_iload_n (i := 1) dM_rule_116 rfl rfl ?_
            refine am_iload_n (i := 2) dM_rule_117 rfl rfl ?_
            refine am_iast' dM_rule_118 (by first | rfl | exact sk8 (by omega) | exact sk9 (by omega) | exact sk10 (by omega) | exact sk11 (by omega)) rfl (by first | omega | assumption | decide) (by decide) (by decide) (by first | exact wm_kd (by omega) | exact wm_kh (by omega) | exact wm_fi (by omega) | exact wm_fh (by omega) | exact wm_se (by omega) | exact wm_sh (by omega) | exact wm_np (by omega) | exact wm_ph (by omega) | exact wm_nq (by omega) | exact wm_qh (by omega) | exact wm_ro | exact wm_co | exact wm_mm | exact wm_sd | exact wm_pa | exact wm_ce | exact wm_wd | exact wm_ud | exact wm_vn | exact wm_sm) ?_
            refine am_iload (i := 4) dM_rule_119 rfl ?_
            refine am_bipush (v := 10) dM_rule_121 (by decide) ?_
            refine am_icmp_lt_T (tgt := 142) dM_rule_123 (by decide) (by rw [c67]; decide) ?_
            refine am_aload_n (i := 0) dM_rule_142 rfl rfl ?_
            refine am_getf dM_rule_143 flM_35 (by first | rfl | exact sk8 (by omega) | exact sk9 (by omega) | exact sk10 (by omega) | exact sk11 (by omega)) rfl ?_
            refine am_iload_n (i := 1) dM_rule_146 rfl rfl ?_
            refine am_iald dM_rule_147 (by first | rfl | exact sk8 (by omega) | exact sk9 (by omega) | exact sk10 (by omega) | exact sk11 (by omega)) rfl (by first | omega | assumption | decide) (by decide) (by decide) (by first | exact congrArg am_I (upd_eq _ _ _) | rfl) ?_
            refine am_iload_n (i := 1) dM_rule_148 rfl rfl ?_
            refine am_icmp_eq_F (tgt := 154) dM_rule_149 (by decide) (q_arg_ne b3 n3 (by omega)) ?_
            refine am_iconst (v := 2) dM_rule_152 (by decide) ?_
            refine am_iret (st := []) rfl rfl dM_rule_153 ?_
            have co : ¬ q_only P v := by grind
            have en : q_neut P v = P v 3 := by unfold q_neut; grind
            have hr := ru2 co (by rw [en]; exact n3)
            exact k _ _ _ (by rw [hr]; rfl) (q_tab0 (Or.inr (Or.inl hr))).symm (by rw [q_dir2 hr, en, if_neg n3])
          · refine am_if_eq_T (tgt := 119) dM_rule_109 (by decide) (by decide) ?_
            refine am_iload (i := 4) dM_rule_119 rfl ?_
            refine am_bipush (v := 10) dM_rule_121 (by decide) ?_
            refine am_icmp_lt_T (tgt := 142) dM_rule_123 (by decide) (by rw [c67]; decide) ?_
            refine am_aload_n (i := 0) dM_rule_142 rfl rfl ?_
            refine am_getf dM_rule_143 flM_35 (by first | rfl | exact sk8 (by omega) | exact sk9 (by omega) | exact sk10 (by omega) | exact sk11 (by omega)) rfl ?_
            refine am_iload_n (i := 1) dM_rule_146 rfl rfl ?_
            refine am_iald dM_rule_147 (by first | rfl | exact sk8 (by omega) | exact sk9 (by omega) | exact sk10 (by omega) | exact sk11 (by omega)) rfl (by first | omega | assumption | decide) (by decide) (by decide) (by first | exact congrArg am_I (upd_eq _ _ _) | rfl) ?_
            refine am_iload_n (i := 1) dM_rule_148 rfl rfl ?_
            refine am_icmp_eq_T (tgt := 154) dM_rule_149 (by decide) hst ?_
            refine am_iload (i := 4) dM_rule_154 rfl ?_
            refine am_iconst (v := 4) dM_rule_156 (by decide) ?_
            refine am_icmp_ne_T (tgt := 186) dM_rule_157 (by decide) (by rw [c67]; decide) ?_
            refine am_iload (i := 4) dM_rule_186 rfl ?_
            refine am_iconst (v := 5) dM_rule_188 (by decide) ?_
            refine am_icmp_ne_T (tgt := 206) dM_rule_189 (by decide) (by rw [c67]; decide) ?_
            refine am_iload (i := 4) dM_rule_206 rfl ?_
            refine am_aload_n (i := 0) dM_rule_208 rfl rfl ?_
            refine am_getf dM_rule_209 flM_7 (by first | rfl | exact sk8 (by omega) | exact sk9 (by omega) | exact sk10 (by omega) | exact sk11 (by omega)) rfl ?_
            refine am_iload_n (i := 2) dM_rule_212 rfl rfl ?_
            refine am_iald dM_rule_213 (by first | rfl | exact sk8 (by omega) | exact sk9 (by omega) | exact sk10 (by omega) | exact sk11 (by omega)) e3 (by first | omega | assumption | decide) (by decide) (by decide) (by first | exact congrArg am_I (mkd_lo (by omega)) | exact congrArg am_I (mkd_hi (by omega)) | rfl) ?_
            refine am_icmp_ne (tgt := 238) dM_rule_214 (by decide) (fun c214 => ?_) (fun c214 => ?_)
            · refine am_iconst (v := 0) dM_rule_238 (by decide) ?_
              refine am_iret (st := []) rfl rfl dM_rule_239 ?_
              have co : ¬ q_only P v := by grind
              have en : q_neut P v = -1 := by unfold q_neut; grind
              have z3 : ¬ q_z3 P v := by grind
              have z4 : ¬ q_z4 P v := by grind
              have hr := ru0 co en z3 z4 (by unfold q_twi; grind)
              exact k _ _ _ (by rw [hr]; rfl) (q_tab0 (Or.inl hr)).symm (by rw [q_dir0 (Or.inl hr), if_pos rfl])
            · refine am_iload (i := 4) dM_rule_217 rfl ?_
              refine am_bipush (v := 6) dM_rule_219 (by decide) ?_
              refine am_icmp_eq_F (tgt := 240) dM_rule_221 (by decide) (by rw [c67]; decide) ?_
              refine am_iload (i := 4) dM_rule_224 rfl ?_
              refine am_bipush (v := 7) dM_rule_226 (by decide) ?_
              refine am_icmp_eq_F (tgt := 240) dM_rule_228 (by decide) (by rw [c67]; decide) ?_
              refine am_iload (i := 4) dM_rule_231 rfl ?_
              refine am_bipush (v := 11) dM_rule_233 (by decide) ?_
              refine am_icmp_eq_F (tgt := 240) dM_rule_235 (by decide) (by rw [c67]; decide) ?_
              refine am_iconst (v := 0) dM_rule_238 (by decide) ?_
              refine am_iret (st := []) rfl rfl dM_rule_239 ?_
              have co : ¬ q_only P v := by grind
              have en : q_neut P v = -1 := by unfold q_neut; grind
              have z3 : ¬ q_z3 P v := by grind
              have z4 : ¬ q_z4 P v := by grind
              have hr := ru0 co en z3 z4 (by unfold q_twi; grind)
              exact k _ _ _ (by rw [hr]; rfl) (q_tab0 (Or.inl hr)).symm (by rw [q_dir0 (Or.inl hr), if_pos rfl])
      · refine am_iload (i := 4) dM_rule_70 rfl ?_
        refine am_iconst (v := 4) dM_rule_72 (by decide) ?_
        refine am_icmp_ne (tgt := 119) dM_rule_73 (by decide) (fun c73 => ?_) (fun c73 => ?_)
        · refine am_iload (i := 4) dM_rule_119 rfl ?_
          refine am_bipush (v := 10) dM_rule_121 (by decide) ?_
          refine am_icmp_lt (tgt := 142) dM_rule_123 (by decide) (fun c123 => ?_) (fun c123 => ?_)
          · refine am_aload_n (i := 0) dM_rule_142 rfl rfl ?_
            refine am_getf dM_rule_143 flM_35 (by first | rfl | exact sk8 (by omega) | exact sk9 (by omega) | exact sk10 (by omega) | exact sk11 (by omega)) rfl ?_
            refine am_iload_n (i := 1) dM_rule_146 rfl rfl ?_
            refine am_iald dM_rule_147 (by first | rfl | exact sk8 (by omega) | exact sk9 (by omega) | exact sk10 (by omega) | exact sk11 (by omega)) rfl (by first | omega | assumption | decide) (by decide) (by decide) (by first | exact congrArg am_I (upd_eq _ _ _) | rfl) ?_
            refine am_iload_n (i := 1) dM_rule_148 rfl rfl ?_
            refine am_icmp_eq_T (tgt := 154) dM_rule_149 (by decide) hst ?_
            refine am_iload (i := 4) dM_rule_154 rfl ?_
            refine am_iconst (v := 4) dM_rule_156 (by decide) ?_
            refine am_icmp_ne_T (tgt := 186) dM_rule_157 (by decide) c73 ?_
            refine am_iload (i := 4) dM_rule_186 rfl ?_
            refine am_iconst (v := 5) dM_rule_188 (by decide) ?_
            refine am_icmp_ne (tgt := 206) dM_rule_189 (by decide) (fun c189 => ?_) (fun c189 => ?_)
            · refine am_iload (i := 4) dM_rule_206 rfl ?_
              refine am_aload_n (i := 0) dM_rule_208 rfl rfl ?_
              refine am_getf dM_rule_209 flM_7 (by first | rfl | exact sk8 (by omega) | exact sk9 (by omega) | exact sk10 (by omega) | exact sk11 (by omega)) rfl ?_
              refine am_iload_n (i := 2) dM_rule_212 rfl rfl ?_
              refine am_iald dM_rule_213 (by first | rfl | exact sk8 (by omega) | exact sk9 (by omega) | exact sk10 (by omega) | exact sk11 (by omega)) e3 (by first | omega | assumption | decide) (by decide) (by decide) (by first | exact congrArg am_I (mkd_lo (by omega)) | exact congrArg am_I (mkd_hi (by omega)) | rfl) ?_
              refine am_icmp_ne (tgt := 238) dM_rule_214 (by decide) (fun c214 => ?_) (fun c214 => ?_)
              · refine am_iconst (v := 0) dM_rule_238 (by decide) ?_
                refine am_iret (st := []) rfl rfl dM_rule_239 ?_
                have co : ¬ q_only P v := by grind
                have en : q_neut P v = -1 := by unfold q_neut; grind
                have z3 : ¬ q_z3 P v := by grind
                have z4 : ¬ q_z4 P v := by grind
                have hr := ru0 co en z3 z4 (by unfold q_twi; grind)
                exact k _ _ _ (by rw [hr]; rfl) (q_tab0 (Or.inl hr)).symm (by rw [q_dir0 (Or.inl hr), if_pos rfl])
              · refine am_iload (i := 4) dM_rule_217 rfl ?_
                refine am_bipush (v := 6) dM_rule_219 (by decide) ?_
                refine am_icmp_eq (tgt := 240) dM_rule_221 (by decide) (fun c221 => ?_) (fun c221 => ?_)
                · have ha := (hP (ix (P v 3)) (by omega)).1.1
                  refine am_aload_n (i := 0) dM_rule_240 rfl rfl ?_
                  refine am_getf dM_rule_241 flM_13 (by first | rfl | exact sk8 (by omega) | exact sk9 (by omega) | exact sk10 (by omega) | exact sk11 (by omega)) rfl ?_
                  refine am_iload_n (i := 2) dM_rule_244 rfl rfl ?_
                  refine am_iald dM_rule_245 (by first | rfl | exact sk8 (by omega) | exact sk9 (by omega) | exact sk10 (by omega) | exact sk11 (by omega)) e3 (by first | omega | assumption | decide) (by decide) (by decide) (by first | exact congrArg am_I (mkd_lo (by omega)) | exact congrArg am_I (mkd_hi (by omega)) | rfl) ?_
                  refine am_istore (i := 5) dM_rule_246 (by decide) ?_
                  refine am_iload (i := 4) dM_rule_248 rfl ?_
                  refine am_bipush (v := 11) dM_rule_250 (by decide) ?_
                  refine am_icmp_ne_T (tgt := 265) dM_rule_252 (by decide) (by rw [c221]; decide) ?_
                  refine am_aload_n (i := 0) dM_rule_265 rfl rfl ?_
                  refine am_getf dM_rule_266 flM_35 (by first | rfl | exact sk8 (by omega) | exact sk9 (by omega) | exact sk10 (by omega) | exact sk11 (by omega)) rfl ?_
                  refine am_iload_n (i := 1) dM_rule_269 rfl rfl ?_
                  refine am_iload (i := 5) dM_rule_270 rfl ?_
                  refine am_iast' dM_rule_272 (by first | rfl | exact sk8 (by omega) | exact sk9 (by omega) | exact sk10 (by omega) | exact sk11 (by omega)) rfl (by first | omega | assumption | decide) (by decide) (by decide) (by first | exact wm_kd (by omega) | exact wm_kh (by omega) | exact wm_fi (by omega) | exact wm_fh (by omega) | exact wm_se (by omega) | exact wm_sh (by omega) | exact wm_np (by omega) | exact wm_ph (by omega) | exact wm_nq (by omega) | exact wm_qh (by omega) | exact wm_ro | exact wm_co | exact wm_mm | exact wm_sd | exact wm_pa | exact wm_ce | exact wm_wd | exact wm_ud | exact wm_vn | exact wm_sm) ?_
                  refine am_goto (tgt := 284) dM_rule_273 (by decide) ?_
                  refine am_iconst (v := 5) dM_rule_284 (by decide) ?_
                  refine am_iret (st := []) rfl rfl dM_rule_285 ?_
                  have co : ¬ q_only P v := by grind
                  have en : q_neut P v = -1 := by unfold q_neut; grind
                  have z3 : ¬ q_z3 P v := by grind
                  have z4 : ¬ q_z4 P v := by grind
                  have tw : q_twi P v = P (ix (P v 3)) 3 := by unfold q_twi; rw [if_pos (by grind), if_pos c214.symm]
                  have ni : ¬ P (ix (P v 3)) 3 = -1 := (hP (ix (P v 3)) (by omega)).1.2.2.1 (by rw [← c214]; exact k2_of _ c221 (by decide))
                  have hne : ¬ q_twi P v = -1 := by rw [tw]; exact ni
                  obtain ⟨t6, -⟩ := q_twi_11 hP hv hn hne
                  have hr := ru5 co en z3 z4 hne
                  have hs : q_shp P v (ix (q_twi P v)) := t6 (by grind)
                  exact k _ _ _ (by rw [hr]; rfl) (by unfold q_tab; rw [if_neg (by omega), if_neg (by omega), if_neg (fun q => q.2 hs)]) (by rw [q_dir5 hr hs, tw, if_neg ni])
                · refine am_iload (i := 4) dM_rule_224 rfl ?_
                  refine am_bipush (v := 7) dM_rule_226 (by decide) ?_
                  refine am_icmp_eq (tgt := 240) dM_rule_228 (by decide) (fun c228 => ?_) (fun c228 => ?_)
                  · have ha := (hP (ix (P v 3)) (by omega)).1.1
                    refine am_aload_n (i := 0) dM_rule_240 rfl rfl ?_
                    refine am_getf dM_rule_241 flM_13 (by first | rfl | exact sk8 (by omega) | exact sk9 (by omega) | exact sk10 (by omega) | exact sk11 (by omega)) rfl ?_
                    refine am_iload_n (i := 2) dM_rule_244 rfl rfl ?_
                    refine am_iald dM_rule_245 (by first | rfl | exact sk8 (by omega) | exact sk9 (by omega) | exact sk10 (by omega) | exact sk11 (by omega)) e3 (by first | omega | assumption | decide) (by decide) (by decide) (by first | exact congrArg am_I (mkd_lo (by omega)) | exact congrArg am_I (mkd_hi (by omega)) | rfl) ?_
                    refine am_istore (i := 5) dM_rule_246 (by decide) ?_
                    refine am_iload (i := 4) dM_rule_248 rfl ?_
                    refine am_bipush (v := 11) dM_rule_250 (by decide) ?_
                    refine am_icmp_ne_T (tgt := 265) dM_rule_252 (by decide) (by rw [c228]; decide) ?_
                    refine am_aload_n (i := 0) dM_rule_265 rfl rfl ?_
                    refine am_getf dM_rule_266 flM_35 (by first | rfl | exact sk8 (by omega) | exact sk9 (by omega) | exact sk10 (by omega) | exact sk11 (by omega)) rfl ?_
                    refine am_iload_n (i := 1) dM_rule_269 rfl rfl ?_
                    refine am_iload (i := 5) dM_rule_270 rfl ?_
                    refine am_iast' dM_rule_272 (by first | rfl | exact sk8 (by omega) | exact sk9 (by omega) | exact sk10 (by omega) | exact sk11 (by omega)) rfl (by first | omega | assumption | decide) (by decide) (by decide) (by first | exact wm_kd (by omega) | exact wm_kh (by omega) | exact wm_fi (by omega) | exact wm_fh (by omega) | exact wm_se (by omega) | exact wm_sh (by omega) | exact wm_np (by omega) | exact wm_ph (by omega) | exact wm_nq (by omega) | exact wm_qh (by omega) | exact wm_ro | exact wm_co | exact wm_mm | exact wm_sd | exact wm_pa | exact wm_ce | exact wm_wd | exact wm_ud | exact wm_vn | exact wm_sm) ?_
                    refine am_goto (tgt := 284) dM_rule_273 (by decide) ?_
                    refine am_iconst (v := 5) dM_rule_284 (by decide) ?_
                    refine am_iret (st := []) rfl rfl dM_rule_285 ?_
                    have co : ¬ q_only P v := by grind
                    have en : q_neut P v = -1 := by unfold q_neut; grind
                    have z3 : ¬ q_z3 P v := by grind
                    have z4 : ¬ q_z4 P v := by grind
                    have tw : q_twi P v = P (ix (P v 3)) 3 := by unfold q_twi; rw [if_pos (by grind), if_pos c214.symm]
                    have ni : ¬ P (ix (P v 3)) 3 = -1 := (hP (ix (P v 3)) (by omega)).1.2.2.1 (by rw [← c214]; exact k2_of _ c228 (by decide))
                    have hne : ¬ q_twi P v = -1 := by rw [tw]; exact ni
                    obtain ⟨t6, -⟩ := q_twi_11 hP hv hn hne
                    have hr := ru5 co en z3 z4 hne
                    have hs : q_shp P v (ix (q_twi P v)) := t6 (by grind)
                    exact k _ _ _ (by rw [hr]; rfl) (by unfold q_tab; rw [if_neg (by omega), if_neg (by omega), if_neg (fun q => q.2 hs)]) (by rw [q_dir5 hr hs, tw, if_neg ni])
                  · refine am_iload (i := 4) dM_rule_231 rfl ?_
                    refine am_bipush (v := 11) dM_rule_233 (by decide) ?_
                    refine am_icmp_eq (tgt := 240) dM_rule_235 (by decide) (fun c235 => ?_) (fun c235 => ?_)
                    · have ha := (hP (ix (P v 3)) (by omega)).1.1
                      refine am_aload_n (i := 0) dM_rule_240 rfl rfl ?_
                      refine am_getf dM_rule_241 flM_13 (by first | rfl | exact sk8 (by omega) | exact sk9 (by omega) | exact sk10 (by omega) | exact sk11 (by omega)) rfl ?_
                      refine am_iload_n (i := 2) dM_rule_244 rfl rfl ?_
                      refine am_iald dM_rule_245 (by first | rfl | exact sk8 (by omega) | exact sk9 (by omega) | exact sk10 (by omega) | exact sk11 (by omega)) e3 (by first | omega | assumption | decide) (by decide) (by decide) (by first | exact congrArg am_I (mkd_lo (by omega)) | exact congrArg am_I (mkd_hi (by omega)) | rfl) ?_
                      refine am_istore (i := 5) dM_rule_246 (by decide) ?_
                      refine am_iload (i := 4) dM_rule_248 rfl ?_
                      refine am_bipush (v := 11) dM_rule_250 (by decide) ?_
                      refine am_icmp_ne_F (tgt := 265) dM_rule_252 (by decide) c235 ?_
                      have ni : ¬ P (ix (P v 3)) 3 = -1 := (hP (ix (P v 3)) (by omega)).1.2.2.1 (by rw [← c214]; exact k2_of 11 (by grind) (by decide))
                      obtain ⟨gi, ei⟩ := ha.ix ni (by omega)
                      refine am_aload_n (i := 0) dM_rule_255 rfl rfl ?_
                      refine am_iload_n (i := 1) dM_rule_256 rfl rfl ?_
                      refine am_iload (i := 5) dM_rule_257 rfl ?_
                      refine am_callV (ac' := 0) (as' := 0) (xs := [_, _]) dM_rule_259 lkM_88 (by first | rfl | exact sk8 (by omega) | exact sk9 (by omega) | exact sk10 (by omega) | exact sk11 (by omega)) rfl rfl rfl rfl (Nat.le_of_ble_eq_true rfl) rfl rfl (cM_sameShape (v := v) (u := ix (P (ix (P v 3)) 3)) (by omega) (by omega) rfl ei (fun ch => ?_) (fun ch => ?_))
                      · refine am_if_eq_F (tgt := 276) dM_rule_262 (by decide) (by decide) ?_
                        refine am_aload_n (i := 0) dM_rule_265 rfl rfl ?_
                        refine am_getf dM_rule_266 flM_35 (by first | rfl | exact sk8 (by omega) | exact sk9 (by omega) | exact sk10 (by omega) | exact sk11 (by omega)) rfl ?_
                        refine am_iload_n (i := 1) dM_rule_269 rfl rfl ?_
                        refine am_iload (i := 5) dM_rule_270 rfl ?_
                        refine am_iast' dM_rule_272 (by first | rfl | exact sk8 (by omega) | exact sk9 (by omega) | exact sk10 (by omega) | exact sk11 (by omega)) rfl (by first | omega | assumption | decide) (by decide) (by decide) (by first | exact wm_kd (by omega) | exact wm_kh (by omega) | exact wm_fi (by omega) | exact wm_fh (by omega) | exact wm_se (by omega) | exact wm_sh (by omega) | exact wm_np (by omega) | exact wm_ph (by omega) | exact wm_nq (by omega) | exact wm_qh (by omega) | exact wm_ro | exact wm_co | exact wm_mm | exact wm_sd | exact wm_pa | exact wm_ce | exact wm_wd | exact wm_ud | exact wm_vn | exact wm_sm) ?_
                        refine am_goto (tgt := 284) dM_rule_273 (by decide) ?_
                        refine am_iconst (v := 5) dM_rule_284 (by decide) ?_
                        refine am_iret (st := []) rfl rfl dM_rule_285 ?_
                        have co : ¬ q_only P v := by grind
                        have en : q_neut P v = -1 := by unfold q_neut; grind
                        have z3 : ¬ q_z3 P v := by grind
                        have z4 : ¬ q_z4 P v := by grind
                        have tw : q_twi P v = P (ix (P v 3)) 3 := by unfold q_twi; rw [if_pos (by grind), if_pos c214.symm]
                        have ni : ¬ P (ix (P v 3)) 3 = -1 := (hP (ix (P v 3)) (by omega)).1.2.2.1 (by rw [← c214]; exact k2_of _ c235 (by decide))
                        have hne : ¬ q_twi P v = -1 := by rw [tw]; exact ni
                        obtain ⟨t6, -⟩ := q_twi_11 hP hv hn hne
                        have hr := ru5 co en z3 z4 hne
                        have hs : q_shp P v (ix (q_twi P v)) := by rw [tw]; exact ch
                        exact k _ _ _ (by rw [hr]; rfl) (by unfold q_tab; rw [if_neg (by omega), if_neg (by omega), if_neg (fun q => q.2 hs)]) (by rw [q_dir5 hr hs, tw, if_neg ni])
                      · refine am_if_eq_T (tgt := 276) dM_rule_262 (by decide) (by decide) ?_
                        refine am_aload_n (i := 0) dM_rule_276 rfl rfl ?_
                        refine am_getf dM_rule_277 flM_13 (by first | rfl | exact sk8 (by omega) | exact sk9 (by omega) | exact sk10 (by omega) | exact sk11 (by omega)) rfl ?_
                        refine am_iload_n (i := 1) dM_rule_280 rfl rfl ?_
                        refine am_iload (i := 5) dM_rule_281 rfl ?_
                        refine am_iast' dM_rule_283 (by first | rfl | exact sk8 (by omega) | exact sk9 (by omega) | exact sk10 (by omega) | exact sk11 (by omega)) rfl (by first | omega | assumption | decide) (by decide) (by decide) (by first | exact wm_kd (by omega) | exact wm_kh (by omega) | exact wm_fi (by omega) | exact wm_fh (by omega) | exact wm_se (by omega) | exact wm_sh (by omega) | exact wm_np (by omega) | exact wm_ph (by omega) | exact wm_nq (by omega) | exact wm_qh (by omega) | exact wm_ro | exact wm_co | exact wm_mm | exact wm_sd | exact wm_pa | exact wm_ce | exact wm_wd | exact wm_ud | exact wm_vn | exact wm_sm) ?_
                        refine am_iconst (v := 5) dM_rule_284 (by decide) ?_
                        refine am_iret (st := []) rfl rfl dM_rule_285 ?_
                        have co : ¬ q_only P v := by grind
                        have en : q_neut P v = -1 := by unfold q_neut; grind
                        have z3 : ¬ q_z3 P v := by grind
                        have z4 : ¬ q_z4 P v := by grind
                        have tw : q_twi P v = P (ix (P v 3)) 3 := by unfold q_twi; rw [if_pos (by grind), if_pos c214.symm]
                        have ni : ¬ P (ix (P v 3)) 3 = -1 := (hP (ix (P v 3)) (by omega)).1.2.2.1 (by rw [← c214]; exact k2_of _ c235 (by decide))
                        have hne : ¬ q_twi P v = -1 := by rw [tw]; exact ni
                        obtain ⟨t6, -⟩ := q_twi_11 hP hv hn hne
                        have hr := ru5 co en z3 z4 hne
                        have hs : ¬ q_shp P v (ix (q_twi P v)) := by rw [tw]; exact ch
                        exact k _ _ _ (by rw [hr]; rfl) (by unfold q_tab; rw [if_neg (by omega), if_neg (by omega), if_pos ⟨hr, hs⟩, tw]) (by rw [q_dir5n hr hs, if_pos rfl])
                    · refine am_iconst (v := 0) dM_rule_238 (by decide) ?_
                      refine am_iret (st := []) rfl rfl dM_rule_239 ?_
                      have co : ¬ q_only P v := by grind
                      have en : q_neut P v = -1 := by unfold q_neut; grind
                      have z3 : ¬ q_z3 P v := by grind
                      have z4 : ¬ q_z4 P v := by grind
                      have hr := ru0 co en z3 z4 (by unfold q_twi; grind)
                      exact k _ _ _ (by rw [hr]; rfl) (q_tab0 (Or.inl hr)).symm (by rw [q_dir0 (Or.inl hr), if_pos rfl])
            · refine am_iload_n (i := 2) dM_rule_192 rfl rfl ?_
              refine am_iload_n (i := 3) dM_rule_193 rfl rfl ?_
              refine am_icmp_ne (tgt := 206) dM_rule_194 (by decide) (fun c194 => ?_) (fun c194 => ?_)
              · refine am_iload (i := 4) dM_rule_206 rfl ?_
                refine am_aload_n (i := 0) dM_rule_208 rfl rfl ?_
                refine am_getf dM_rule_209 flM_7 (by first | rfl | exact sk8 (by omega) | exact sk9 (by omega) | exact sk10 (by omega) | exact sk11 (by omega)) rfl ?_
                refine am_iload_n (i := 2) dM_rule_212 rfl rfl ?_
                refine am_iald dM_rule_213 (by first | rfl | exact sk8 (by omega) | exact sk9 (by omega) | exact sk10 (by omega) | exact sk11 (by omega)) e3 (by first | omega | assumption | decide) (by decide) (by decide) (by first | exact congrArg am_I (mkd_lo (by omega)) | exact congrArg am_I (mkd_hi (by omega)) | rfl) ?_
                refine am_icmp_ne (tgt := 238) dM_rule_214 (by decide) (fun c214 => ?_) (fun c214 => ?_)
                · refine am_iconst (v := 0) dM_rule_238 (by decide) ?_
                  refine am_iret (st := []) rfl rfl dM_rule_239 ?_
                  have co : ¬ q_only P v := by grind
                  have en : q_neut P v = -1 := by unfold q_neut; grind
                  have z3 : ¬ q_z3 P v := by grind
                  have z4 : ¬ q_z4 P v := by grind
                  have hr := ru0 co en z3 z4 (by unfold q_twi; grind)
                  exact k _ _ _ (by rw [hr]; rfl) (q_tab0 (Or.inl hr)).symm (by rw [q_dir0 (Or.inl hr), if_pos rfl])
                · refine am_iload (i := 4) dM_rule_217 rfl ?_
                  refine am_bipush (v := 6) dM_rule_219 (by decide) ?_
                  refine am_icmp_eq (tgt := 240) dM_rule_221 (by decide) (fun c221 => ?_) (fun c221 => ?_)
                  · have ha := (hP (ix (P v 3)) (by omega)).1.1
                    refine am_aload_n (i := 0) dM_rule_240 rfl rfl ?_
                    refine am_getf dM_rule_241 flM_13 (by first | rfl | exact sk8 (by omega) | exact sk9 (by omega) | exact sk10 (by omega) | exact sk11 (by omega)) rfl ?_
                    refine am_iload_n (i := 2) dM_rule_244 rfl rfl ?_
                    refine am_iald dM_rule_245 (by first | rfl | exact sk8 (by omega) | exact sk9 (by omega) | exact sk10 (by omega) | exact sk11 (by omega)) e3 (by first | omega | assumption | decide) (by decide) (by decide) (by first | exact congrArg am_I (mkd_lo (by omega)) | exact congrArg am_I (mkd_hi (by omega)) | rfl) ?_
                    refine am_istore (i := 5) dM_rule_246 (by decide) ?_
                    refine am_iload (i := 4) dM_rule_248 rfl ?_
                    refine am_bipush (v := 11) dM_rule_250 (by decide) ?_
                    refine am_icmp_ne_T (tgt := 265) dM_rule_252 (by decide) (by rw [c221]; decide) ?_
                    refine am_aload_n (i := 0) dM_rule_265 rfl rfl ?_
                    refine am_getf dM_rule_266 flM_35 (by first | rfl | exact sk8 (by omega) | exact sk9 (by omega) | exact sk10 (by omega) | exact sk11 (by omega)) rfl ?_
                    refine am_iload_n (i := 1) dM_rule_269 rfl rfl ?_
                    refine am_iload (i := 5) dM_rule_270 rfl ?_
                    refine am_iast' dM_rule_272 (by first | rfl | exact sk8 (by omega) | exact sk9 (by omega) | exact sk10 (by omega) | exact sk11 (by omega)) rfl (by first | omega | assumption | decide) (by decide) (by decide) (by first | exact wm_kd (by omega) | exact wm_kh (by omega) | exact wm_fi (by omega) | exact wm_fh (by omega) | exact wm_se (by omega) | exact wm_sh (by omega) | exact wm_np (by omega) | exact wm_ph (by omega) | exact wm_nq (by omega) | exact wm_qh (by omega) | exact wm_ro | exact wm_co | exact wm_mm | exact wm_sd | exact wm_pa | exact wm_ce | exact wm_wd | exact wm_ud | exact wm_vn | exact wm_sm) ?_
                    refine am_goto (tgt := 284) dM_rule_273 (by decide) ?_
                    refine am_iconst (v := 5) dM_rule_284 (by decide) ?_
                    refine am_iret (st := []) rfl rfl dM_rule_285 ?_
                    have co : ¬ q_only P v := by grind
                    have en : q_neut P v = -1 := by unfold q_neut; grind
                    have z3 : ¬ q_z3 P v := by grind
                    have z4 : ¬ q_z4 P v := by grind
                    have tw : q_twi P v = P (ix (P v 3)) 3 := by unfold q_twi; rw [if_pos (by grind), if_pos c214.symm]
                    have ni : ¬ P (ix (P v 3)) 3 = -1 := (hP (ix (P v 3)) (by omega)).1.2.2.1 (by rw [← c214]; exact k2_of _ c221 (by decide))
                    have hne : ¬ q_twi P v = -1 := by rw [tw]; exact ni
                    obtain ⟨t6, -⟩ := q_twi_11 hP hv hn hne
                    have hr := ru5 co en z3 z4 hne
                    have hs : q_shp P v (ix (q_twi P v)) := t6 (by grind)
                    exact k _ _ _ (by rw [hr]; rfl) (by unfold q_tab; rw [if_neg (by omega), if_neg (by omega), if_neg (fun q => q.2 hs)]) (by rw [q_dir5 hr hs, tw, if_neg ni])
                  · refine am_iload (i := 4) dM_rule_224 rfl ?_
                    refine am_bipush (v := 7) dM_rule_226 (by decide) ?_
                    refine am_icmp_eq (tgt := 240) dM_rule_228 (by decide) (fun c228 => ?_) (fun c228 => ?_)
                    · have ha := (hP (ix (P v 3)) (by omega)).1.1
                      refine am_aload_n (i := 0) dM_rule_240 rfl rfl ?_
                      refine am_getf dM_rule_241 flM_13 (by first | rfl | exact sk8 (by omega) | exact sk9 (by omega) | exact sk10 (by omega) | exact sk11 (by omega)) rfl ?_
                      refine am_iload_n (i := 2) dM_rule_244 rfl rfl ?_
                      refine am_iald dM_rule_245 (by first | rfl | exact sk8 (by omega) | exact sk9 (by omega) | exact sk10 (by omega) | exact sk11 (by omega)) e3 (by first | omega | assumption | decide) (by decide) (by decide) (by first | exact congrArg am_I (mkd_lo (by omega)) | exact congrArg am_I (mkd_hi (by omega)) | rfl) ?_
                      refine am_istore (i := 5) dM_rule_246 (by decide) ?_
                      refine am_iload (i := 4) dM_rule_248 rfl ?_
                      refine am_bipush (v := 11) dM_rule_250 (by decide) ?_
                      refine am_icmp_ne_T (tgt := 265) dM_rule_252 (by decide) (by rw [c228]; decide) ?_
                      refine am_aload_n (i := 0) dM_rule_265 rfl rfl ?_
                      refine am_getf dM_rule_266 flM_35 (by first | rfl | exact sk8 (by omega) | exact sk9 (by omega) | exact sk10 (by omega) | exact sk11 (by omega)) rfl ?_
                      refine am_iload_n (i := 1) dM_rule_269 rfl rfl ?_
                      refine am_iload (i := 5) dM_rule_270 rfl ?_
                      refine am_iast' dM_rule_272 (by first | rfl | exact sk8 (by omega) | exact sk9 (by omega) | exact sk10 (by omega) | exact sk11 (by omega)) rfl (by first | omega | assumption | decide) (by decide) (by decide) (by first | exact wm_kd (by omega) | exact wm_kh (by omega) | exact wm_fi (by omega) | exact wm_fh (by omega) | exact wm_se (by omega) | exact wm_sh (by omega) | exact wm_np (by omega) | exact wm_ph (by omega) | exact wm_nq (by omega) | exact wm_qh (by omega) | exact wm_ro | exact wm_co | exact wm_mm | exact wm_sd | exact wm_pa | exact wm_ce | exact wm_wd | exact wm_ud | exact wm_vn | exact wm_sm) ?_
                      refine am_goto (tgt := 284) dM_rule_273 (by decide) ?_
                      refine am_iconst (v := 5) dM_rule_284 (by decide) ?_
                      refine am_iret (st := []) rfl rfl dM_rule_285 ?_
                      have co : ¬ q_only P v := by grind
                      have en : q_neut P v = -1 := by unfold q_neut; grind
                      have z3 : ¬ q_z3 P v := by grind
                      have z4 : ¬ q_z4 P v := by grind
                      have tw : q_twi P v = P (ix (P v 3)) 3 := by unfold q_twi; rw [if_pos (by grind), if_pos c214.symm]
                      have ni : ¬ P (ix (P v 3)) 3 = -1 := (hP (ix (P v 3)) (by omega)).1.2.2.1 (by rw [← c214]; exact k2_of _ c228 (by decide))
                      have hne : ¬ q_twi P v = -1 := by rw [tw]; exact ni
                      obtain ⟨t6, -⟩ := q_twi_11 hP hv hn hne
                      have hr := ru5 co en z3 z4 hne
                      have hs : q_shp P v (ix (q_twi P v)) := t6 (by grind)
                      exact k _ _ _ (by rw [hr]; rfl) (by unfold q_tab; rw [if_neg (by omega), if_neg (by omega), if_neg (fun q => q.2 hs)]) (by rw [q_dir5 hr hs, tw, if_neg ni])
                    · refine am_iload (i := 4) dM_rule_231 rfl ?_
                      refine am_bipush (v := 11) dM_rule_233 (by decide) ?_
                      refine am_icmp_eq (tgt := 240) dM_rule_235 (by decide) (fun c235 => ?_) (fun c235 => ?_)
                      · have ha := (hP (ix (P v 3)) (by omega)).1.1
                        refine am_aload_n (i := 0) dM_rule_240 rfl rfl ?_
                        refine am_getf dM_rule_241 flM_13 (by first | rfl | exact sk8 (by omega) | exact sk9 (by omega) | exact sk10 (by omega) | exact sk11 (by omega)) rfl ?_
                        refine am_iload_n (i := 2) dM_rule_244 rfl rfl ?_
                        refine am_iald dM_rule_245 (by first | rfl | exact sk8 (by omega) | exact sk9 (by omega) | exact sk10 (by omega) | exact sk11 (by omega)) e3 (by first | omega | assumption | decide) (by decide) (by decide) (by first | exact congrArg am_I (mkd_lo (by omega)) | exact congrArg am_I (mkd_hi (by omega)) | rfl) ?_
                        refine am_istore (i := 5) dM_rule_246 (by decide) ?_
                        refine am_iload (i := 4) dM_rule_248 rfl ?_
                        refine am_bipush (v := 11) dM_rule_250 (by decide) ?_
                        refine am_icmp_ne_F (tgt := 265) dM_rule_252 (by decide) c235 ?_
                        have ni : ¬ P (ix (P v 3)) 3 = -1 := (hP (ix (P v 3)) (by omega)).1.2.2.1 (by rw [← c214]; exact k2_of 11 (by grind) (by decide))
                        obtain ⟨gi, ei⟩ := ha.ix ni (by omega)
                        refine am_aload_n (i := 0) dM_rule_255 rfl rfl ?_
                        refine am_iload_n (i := 1) dM_rule_256 rfl rfl ?_
                        refine am_iload (i := 5) dM_rule_257 rfl ?_
                        refine am_callV (ac' := 0) (as' := 0) (xs := [_, _]) dM_rule_259 lkM_88 (by first | rfl | exact sk8 (by omega) | exact sk9 (by omega) | exact sk10 (by omega) | exact sk11 (by omega)) rfl rfl rfl rfl (Nat.le_of_ble_eq_true rfl) rfl rfl (cM_sameShape (v := v) (u := ix (P (ix (P v 3)) 3)) (by omega) (by omega) rfl ei (fun ch => ?_) (fun ch => ?_))
                        · refine am_if_eq_F (tgt := 276) dM_rule_262 (by decide) (by decide) ?_
                          refine am_aload_n (i := 0) dM_rule_265 rfl rfl ?_
                          refine am_getf dM_rule_266 flM_35 (by first | rfl | exact sk8 (by omega) | exact sk9 (by omega) | exact sk10 (by omega) | exact sk11 (by omega)) rfl ?_
                          refine am_iload_n (i := 1) dM_rule_269 rfl rfl ?_
                          refine am_iload (i := 5) dM_rule_270 rfl ?_
                          refine am_iast' dM_rule_272 (by first | rfl | exact sk8 (by omega) | exact sk9 (by omega) | exact sk10 (by omega) | exact sk11 (by omega)) rfl (by first | omega | assumption | decide) (by decide) (by decide) (by first | exact wm_kd (by omega) | exact wm_kh (by omega) | exact wm_fi (by omega) | exact wm_fh (by omega) | exact wm_se (by omega) | exact wm_sh (by omega) | exact wm_np (by omega) | exact wm_ph (by omega) | exact wm_nq (by omega) | exact wm_qh (by omega) | exact wm_ro | exact wm_co | exact wm_mm | exact wm_sd | exact wm_pa | exact wm_ce | exact wm_wd | exact wm_ud | exact wm_vn | exact wm_sm) ?_
                          refine am_goto (tgt := 284) dM_rule_273 (by decide) ?_
                          refine am_iconst (v := 5) dM_rule_284 (by decide) ?_
                          refine am_iret (st := []) rfl rfl dM_rule_285 ?_
                          have co : ¬ q_only P v := by grind
                          have en : q_neut P v = -1 := by unfold q_neut; grind
                          have z3 : ¬ q_z3 P v := by grind
                          have z4 : ¬ q_z4 P v := by grind
                          have tw : q_twi P v = P (ix (P v 3)) 3 := by unfold q_twi; rw [if_pos (by grind), if_pos c214.symm]
                          have ni : ¬ P (ix (P v 3)) 3 = -1 := (hP (ix (P v 3)) (by omega)).1.2.2.1 (by rw [← c214]; exact k2_of _ c235 (by decide))
                          have hne : ¬ q_twi P v = -1 := by rw [tw]; exact ni
                          obtain ⟨t6, -⟩ := q_twi_11 hP hv hn hne
                          have hr := ru5 co en z3 z4 hne
                          have hs : q_shp P v (ix (q_twi P v)) := by rw [tw]; exact ch
                          exact k _ _ _ (by rw [hr]; rfl) (by unfold q_tab; rw [if_neg (by omega), if_neg (by omega), if_neg (fun q => q.2 hs)]) (by rw [q_dir5 hr hs, tw, if_neg ni])
                        · refine am_if_eq_T (tgt := 276) dM_rule_262 (by decide) (by decide) ?_
                          refine am_aload_n (i := 0) dM_rule_276 rfl rfl ?_
                          refine am_getf dM_rule_277 flM_13 (by first | rfl | exact sk8 (by omega) | exact sk9 (by omega) | exact sk10 (by omega) | exact sk11 (by omega)) rfl ?_
                          refine am_iload_n (i := 1) dM_rule_280 rfl rfl ?_
                          refine am_iload (i := 5) dM_rule_281 rfl ?_
                          refine am_iast' dM_rule_283 (by first | rfl | exact sk8 (by omega) | exact sk9 (by omega) | exact sk10 (by omega) | exact sk11 (by omega)) rfl (by first | omega | assumption | decide) (by decide) (by decide) (by first | exact wm_kd (by omega) | exact wm_kh (by omega) | exact wm_fi (by omega) | exact wm_fh (by omega) | exact wm_se (by omega) | exact wm_sh (by omega) | exact wm_np (by omega) | exact wm_ph (by omega) | exact wm_nq (by omega) | exact wm_qh (by omega) | exact wm_ro | exact wm_co | exact wm_mm | exact wm_sd | exact wm_pa | exact wm_ce | exact wm_wd | exact wm_ud | exact wm_vn | exact wm_sm) ?_
                          refine am_iconst (v := 5) dM_rule_284 (by decide) ?_
                          refine am_iret (st := []) rfl rfl dM_rule_285 ?_
                          have co : ¬ q_only P v := by grind
                          have en : q_neut P v = -1 := by unfold q_neut; grind
                          have z3 : ¬ q_z3 P v := by grind
                          have z4 : ¬ q_z4 P v := by grind
                          have tw : q_twi P v = P (ix (P v 3)) 3 := by unfold q_twi; rw [if_pos (by grind), if_pos c214.symm]
                          have ni : ¬ P (ix (P v 3)) 3 = -1 := (hP (ix (P v 3)) (by omega)).1.2.2.1 (by rw [← c214]; exact k2_of _ c235 (by decide))
                          have hne : ¬ q_twi P v = -1 := by rw [tw]; exact ni
                          obtain ⟨t6, -⟩ := q_twi_11 hP hv hn hne
                          have hr := ru5 co en z3 z4 hne
                          have hs : ¬ q_shp P v (ix (q_twi P v)) := by rw [tw]; exact ch
                          exact k _ _ _ (by rw [hr]; rfl) (by unfold q_tab; rw [if_neg (by omega), if_neg (by omega), if_pos ⟨hr, hs⟩, tw]) (by rw [q_dir5n hr hs, if_pos rfl])
                      · refine am_iconst (v := 0) dM_rule_238 (by decide) ?_
                        refine am_iret (st := []) rfl rfl dM_rule_239 ?_
                        have co : ¬ q_only P v := by grind
                        have en : q_neut P v = -1 := by unfold q_neut; grind
                        have z3 : ¬ q_z3 P v := by grind
                        have z4 : ¬ q_z4 P v := by grind
                        have hr := ru0 co en z3 z4 (by unfold q_twi; grind)
                        exact k _ _ _ (by rw [hr]; rfl) (q_tab0 (Or.inl hr)).symm (by rw [q_dir0 (Or.inl hr), if_pos rfl])
              · refine am_aload_n (i := 0) dM_rule_197 rfl rfl ?_
                refine am_getf dM_rule_198 flM_35 (by first | rfl | exact sk8 (by omega) | exact sk9 (by omega) | exact sk10 (by omega) | exact sk11 (by omega)) rfl ?_
                refine am_iload_n (i := 1) dM_rule_201 rfl rfl ?_
                refine am_iload_n (i := 2) dM_rule_202 rfl rfl ?_
                refine am_iast' dM_rule_203 (by first | rfl | exact sk8 (by omega) | exact sk9 (by omega) | exact sk10 (by omega) | exact sk11 (by omega)) rfl (by first | omega | assumption | decide) (by decide) (by decide) (by first | exact wm_kd (by omega) | exact wm_kh (by omega) | exact wm_fi (by omega) | exact wm_fh (by omega) | exact wm_se (by omega) | exact wm_sh (by omega) | exact wm_np (by omega) | exact wm_ph (by omega) | exact wm_nq (by omega) | exact wm_qh (by omega) | exact wm_ro | exact wm_co | exact wm_mm | exact wm_sd | exact wm_pa | exact wm_ce | exact wm_wd | exact wm_ud | exact wm_vn | exact wm_sm) ?_
                refine am_iconst (v := 4) dM_rule_204 (by decide) ?_
                refine am_iret (st := []) rfl rfl dM_rule_205 ?_
                have co : ¬ q_only P v := by grind
                have en : q_neut P v = -1 := by unfold q_neut; grind
                have z3 : ¬ q_z3 P v := by grind
                have hr := ru4 co en z3 (by grind)
                exact k _ _ _ (by rw [hr]; rfl) (q_tab0 (Or.inr (Or.inr hr))).symm (by rw [q_dir4 hr, if_neg n3])
          · refine am_aload_n (i := 0) dM_rule_126 rfl rfl ?_
            refine am_iload_n (i := 1) dM_rule_127 rfl rfl ?_
            refine am_iload_n (i := 2) dM_rule_128 rfl rfl ?_
            refine am_callV (ac' := 0) (as' := 0) (xs := [_, _]) dM_rule_129 lkM_88 (by first | rfl | exact sk8 (by omega) | exact sk9 (by omega) | exact sk10 (by omega) | exact sk11 (by omega)) rfl rfl rfl rfl (Nat.le_of_ble_eq_true rfl) rfl rfl (cM_sameShape (v := v) (u := ix (P v 3)) (by omega) (by omega) rfl e3 (fun cs => ?_) (fun cs => ?_))
            · refine am_if_eq_F (tgt := 142) dM_rule_132 (by decide) (by decide) ?_
              refine am_aload_n (i := 0) dM_rule_135 rfl rfl ?_
              refine am_getf dM_rule_136 flM_35 (by first | rfl | exact sk8 (by omega) | exact sk9 (by omega) | exact sk10 (by omega) | exact sk11 (by omega)) rfl ?_
              refine am_iload_n (i := 1) dM_rule_139 rfl rfl ?_
              refine am_iload_n (i := 2) dM_rule_140 rfl rfl ?_
              refine am_iast' dM_rule_141 (by first | rfl | exact sk8 (by omega) | exact sk9 (by omega) | exact sk10 (by omega) | exact sk11 (by omega)) rfl (by first | omega | assumption | decide) (by decide) (by decide) (by first | exact wm_kd (by omega) | exact wm_kh (by omega) | exact wm_fi (by omega) | exact wm_fh (by omega) | exact wm_se (by omega) | exact wm_sh (by omega) | exact wm_np (by omega) | exact wm_ph (by omega) | exact wm_nq (by omega) | exact wm_qh (by omega) | exact wm_ro | exact wm_co | exact wm_mm | exact wm_sd | exact wm_pa | exact wm_ce | exact wm_wd | exact wm_ud | exact wm_vn | exact wm_sm) ?_
              refine am_aload_n (i := 0) dM_rule_142 rfl rfl ?_
              refine am_getf dM_rule_143 flM_35 (by first | rfl | exact sk8 (by omega) | exact sk9 (by omega) | exact sk10 (by omega) | exact sk11 (by omega)) rfl ?_
              refine am_iload_n (i := 1) dM_rule_146 rfl rfl ?_
              refine am_iald dM_rule_147 (by first | rfl | exact sk8 (by omega) | exact sk9 (by omega) | exact sk10 (by omega) | exact sk11 (by omega)) rfl (by first | omega | assumption | decide) (by decide) (by decide) (by first | exact congrArg am_I (upd_eq _ _ _) | rfl) ?_
              refine am_iload_n (i := 1) dM_rule_148 rfl rfl ?_
              refine am_icmp_eq_F (tgt := 154) dM_rule_149 (by decide) (q_arg_ne b3 n3 (by omega)) ?_
              refine am_iconst (v := 2) dM_rule_152 (by decide) ?_
              refine am_iret (st := []) rfl rfl dM_rule_153 ?_
              have co : ¬ q_only P v := by grind
              have en : q_neut P v = P v 3 := by unfold q_neut; rw [if_pos (q_res10 hkd c123), if_pos cs]
              have hr := ru2 co (by rw [en]; exact n3)
              exact k _ _ _ (by rw [hr]; rfl) (q_tab0 (Or.inr (Or.inl hr))).symm (by rw [q_dir2 hr, en, if_neg n3])
            · refine am_if_eq_T (tgt := 142) dM_rule_132 (by decide) (by decide) ?_
              refine am_aload_n (i := 0) dM_rule_142 rfl rfl ?_
              refine am_getf dM_rule_143 flM_35 (by first | rfl | exact sk8 (by omega) | exact sk9 (by omega) | exact sk10 (by omega) | exact sk11 (by omega)) rfl ?_
              refine am_iload_n (i := 1) dM_rule_146 rfl rfl ?_
              refine am_iald dM_rule_147 (by first | rfl | exact sk8 (by omega) | exact sk9 (by omega) | exact sk10 (by omega) | exact sk11 (by omega)) rfl (by first | omega | assumption | decide) (by decide) (by decide) (by first | exact congrArg am_I (upd_eq _ _ _) | rfl) ?_
              refine am_iload_n (i := 1) dM_rule_148 rfl rfl ?_
              refine am_icmp_eq_T (tgt := 154) dM_rule_149 (by decide) hst ?_
              refine am_iload (i := 4) dM_rule_154 rfl ?_
              refine am_iconst (v := 4) dM_rule_156 (by decide) ?_
              refine am_icmp_ne_T (tgt := 186) dM_rule_157 (by decide) c73 ?_
              refine am_iload (i := 4) dM_rule_186 rfl ?_
              refine am_iconst (v := 5) dM_rule_188 (by decide) ?_
              refine am_icmp_ne (tgt := 206) dM_rule_189 (by decide) (fun c189 => ?_) (fun c189 => ?_)
              · refine am_iload (i := 4) dM_rule_206 rfl ?_
                refine am_aload_n (i := 0) dM_rule_208 rfl rfl ?_
                refine am_getf dM_rule_209 flM_7 (by first | rfl | exact sk8 (by omega) | exact sk9 (by omega) | exact sk10 (by omega) | exact sk11 (by omega)) rfl ?_
                refine am_iload_n (i := 2) dM_rule_212 rfl rfl ?_
                refine am_iald dM_rule_213 (by first | rfl | exact sk8 (by omega) | exact sk9 (by omega) | exact sk10 (by omega) | exact sk11 (by omega)) e3 (by first | omega | assumption | decide) (by decide) (by decide) (by first | exact congrArg am_I (mkd_lo (by omega)) | exact congrArg am_I (mkd_hi (by omega)) | rfl) ?_
                refine am_icmp_ne (tgt := 238) dM_rule_214 (by decide) (fun c214 => ?_) (fun c214 => ?_)
                · refine am_iconst (v := 0) dM_rule_238 (by decide) ?_
                  refine am_iret (st := []) rfl rfl dM_rule_239 ?_
                  have co : ¬ q_only P v := by grind
                  have en : q_neut P v = -1 := by unfold q_neut; rw [if_pos (q_res10 hkd c123), if_neg cs]
                  have z3 : ¬ q_z3 P v := by grind
                  have z4 : ¬ q_z4 P v := by grind
                  have hr := ru0 co en z3 z4 (by unfold q_twi; grind)
                  exact k _ _ _ (by rw [hr]; rfl) (q_tab0 (Or.inl hr)).symm (by rw [q_dir0 (Or.inl hr), if_pos rfl])
                · refine am_iload (i := 4) dM_rule_217 rfl ?_
                  refine am_bipush (v := 6) dM_rule_219 (by decide) ?_
                  refine am_icmp_eq (tgt := 240) dM_rule_221 (by decide) (fun c221 => ?_) (fun c221 => ?_)
                  · have ha := (hP (ix (P v 3)) (by omega)).1.1
                    refine am_aload_n (i := 0) dM_rule_240 rfl rfl ?_
                    refine am_getf dM_rule_241 flM_13 (by first | rfl | exact sk8 (by omega) | exact sk9 (by omega) | exact sk10 (by omega) | exact sk11 (by omega)) rfl ?_
                    refine am_iload_n (i := 2) dM_rule_244 rfl rfl ?_
                    refine am_iald dM_rule_245 (by first | rfl | exact sk8 (by omega) | exact sk9 (by omega) | exact sk10 (by omega) | exact sk11 (by omega)) e3 (by first | omega | assumption | decide) (by decide) (by decide) (by first | exact congrArg am_I (mkd_lo (by omega)) | exact congrArg am_I (mkd_hi (by omega)) | rfl) ?_
                    refine am_istore (i := 5) dM_rule_246 (by decide) ?_
                    refine am_iload (i := 4) dM_rule_248 rfl ?_
                    refine am_bipush (v := 11) dM_rule_250 (by decide) ?_
                    refine am_icmp_ne_T (tgt := 265) dM_rule_252 (by decide) (by rw [c221]; decide) ?_
                    refine am_aload_n (i := 0) dM_rule_265 rfl rfl ?_
                    refine am_getf dM_rule_266 flM_35 (by first | rfl | exact sk8 (by omega) | exact sk9 (by omega) | exact sk10 (by omega) | exact sk11 (by omega)) rfl ?_
                    refine am_iload_n (i := 1) dM_rule_269 rfl rfl ?_
                    refine am_iload (i := 5) dM_rule_270 rfl ?_
                    refine am_iast' dM_rule_272 (by first | rfl | exact sk8 (by omega) | exact sk9 (by omega) | exact sk10 (by omega) | exact sk11 (by omega)) rfl (by first | omega | assumption | decide) (by decide) (by decide) (by first | exact wm_kd (by omega) | exact wm_kh (by omega) | exact wm_fi (by omega) | exact wm_fh (by omega) | exact wm_se (by omega) | exact wm_sh (by omega) | exact wm_np (by omega) | exact wm_ph (by omega) | exact wm_nq (by omega) | exact wm_qh (by omega) | exact wm_ro | exact wm_co | exact wm_mm | exact wm_sd | exact wm_pa | exact wm_ce | exact wm_wd | exact wm_ud | exact wm_vn | exact wm_sm) ?_
                    refine am_goto (tgt := 284) dM_rule_273 (by decide) ?_
                    refine am_iconst (v := 5) dM_rule_284 (by decide) ?_
                    refine am_iret (st := []) rfl rfl dM_rule_285 ?_
                    have co : ¬ q_only P v := by grind
                    have en : q_neut P v = -1 := by unfold q_neut; rw [if_pos (q_res10 hkd c123), if_neg cs]
                    have z3 : ¬ q_z3 P v := by grind
                    have z4 : ¬ q_z4 P v := by grind
                    have tw : q_twi P v = P (ix (P v 3)) 3 := by unfold q_twi; rw [if_pos (by grind), if_pos c214.symm]
                    have ni : ¬ P (ix (P v 3)) 3 = -1 := (hP (ix (P v 3)) (by omega)).1.2.2.1 (by rw [← c214]; exact k2_of _ c221 (by decide))
                    have hne : ¬ q_twi P v = -1 := by rw [tw]; exact ni
                    obtain ⟨t6, -⟩ := q_twi_11 hP hv hn hne
                    have hr := ru5 co en z3 z4 hne
                    have hs : q_shp P v (ix (q_twi P v)) := t6 (by grind)
                    exact k _ _ _ (by rw [hr]; rfl) (by unfold q_tab; rw [if_neg (by omega), if_neg (by omega), if_neg (fun q => q.2 hs)]) (by rw [q_dir5 hr hs, tw, if_neg ni])
                  · refine am_iload (i := 4) dM_rule_224 rfl ?_
                    refine am_bipush (v := 7) dM_rule_226 (by decide) ?_
                    refine am_icmp_eq (tgt := 240) dM_rule_228 (by decide) (fun c228 => ?_) (fun c228 => ?_)
                    · have ha := (hP (ix (P v 3)) (by omega)).1.1
                      refine am_aload_n (i := 0) dM_rule_240 rfl rfl ?_
                      refine am_getf dM_rule_241 flM_13 (by first | rfl | exact sk8 (by omega) | exact sk9 (by omega) | exact sk10 (by omega) | exact sk11 (by omega)) rfl ?_
                      refine am_iload_n (i := 2) dM_rule_244 rfl rfl ?_
                      refine am_iald dM_rule_245 (by first | rfl | exact sk8 (by omega) | exact sk9 (by omega) | exact sk10 (by omega) | exact sk11 (by omega)) e3 (by first | omega | assumption | decide) (by decide) (by decide) (by first | exact congrArg am_I (mkd_lo (by omega)) | exact congrArg am_I (mkd_hi (by omega)) | rfl) ?_
                      refine am_istore (i := 5) dM_rule_246 (by decide) ?_
                      refine am_iload (i := 4) dM_rule_248 rfl ?_
                      refine am_bipush (v := 11) dM_rule_250 (by decide) ?_
                      refine am_icmp_ne_T (tgt := 265) dM_rule_252 (by decide) (by rw [c228]; decide) ?_
                      refine am_aload_n (i := 0) dM_rule_265 rfl rfl ?_
                      refine am_getf dM_rule_266 flM_35 (by first | rfl | exact sk8 (by omega) | exact sk9 (by omega) | exact sk10 (by omega) | exact sk11 (by omega)) rfl ?_
                      refine am_iload_n (i := 1) dM_rule_269 rfl rfl ?_
                      refine am_iload (i := 5) dM_rule_270 rfl ?_
                      refine am_iast' dM_rule_272 (by first | rfl | exact sk8 (by omega) | exact sk9 (by omega) | exact sk10 (by omega) | exact sk11 (by omega)) rfl (by first | omega | assumption | decide) (by decide) (by decide) (by first | exact wm_kd (by omega) | exact wm_kh (by omega) | exact wm_fi (by omega) | exact wm_fh (by omega) | exact wm_se (by omega) | exact wm_sh (by omega) | exact wm_np (by omega) | exact wm_ph (by omega) | exact wm_nq (by omega) | exact wm_qh (by omega) | exact wm_ro | exact wm_co | exact wm_mm | exact wm_sd | exact wm_pa | exact wm_ce | exact wm_wd | exact wm_ud | exact wm_vn | exact wm_sm) ?_
                      refine am_goto (tgt := 284) dM_rule_273 (by decide) ?_
                      refine am_iconst (v := 5) dM_rule_284 (by decide) ?_
                      refine am_iret (st := []) rfl rfl dM_rule_285 ?_
                      have co : ¬ q_only P v := by grind
                      have en : q_neut P v = -1 := by unfold q_neut; rw [if_pos (q_res10 hkd c123), if_neg cs]
                      have z3 : ¬ q_z3 P v := by grind
                      have z4 : ¬ q_z4 P v := by grind
                      have tw : q_twi P v = P (ix (P v 3)) 3 := by unfold q_twi; rw [if_pos (by grind), if_pos c214.symm]
                      have ni : ¬ P (ix (P v 3)) 3 = -1 := (hP (ix (P v 3)) (by omega)).1.2.2.1 (by rw [← c214]; exact k2_of _ c228 (by decide))
                      have hne : ¬ q_twi P v = -1 := by rw [tw]; exact ni
                      obtain ⟨t6, -⟩ := q_twi_11 hP hv hn hne
                      have hr := ru5 co en z3 z4 hne
                      have hs : q_shp P v (ix (q_twi P v)) := t6 (by grind)
                      exact k _ _ _ (by rw [hr]; rfl) (by unfold q_tab; rw [if_neg (by omega), if_neg (by omega), if_neg (fun q => q.2 hs)]) (by rw [q_dir5 hr hs, tw, if_neg ni])
                    · refine am_iload (i := 4) dM_rule_231 rfl ?_
                      refine am_bipush (v := 11) dM_rule_233 (by decide) ?_
                      refine am_icmp_eq (tgt := 240) dM_rule_235 (by decide) (fun c235 => ?_) (fun c235 => ?_)
                      · have ha := (hP (ix (P v 3)) (by omega)).1.1
                        refine am_aload_n (i := 0) dM_rule_240 rfl rfl ?_
                        refine am_getf dM_rule_241 flM_13 (by first | rfl | exact sk8 (by omega) | exact sk9 (by omega) | exact sk10 (by omega) | exact sk11 (by omega)) rfl ?_
                        refine am_iload_n (i := 2) dM_rule_244 rfl rfl ?_
                        refine am_iald dM_rule_245 (by first | rfl | exact sk8 (by omega) | exact sk9 (by omega) | exact sk10 (by omega) | exact sk11 (by omega)) e3 (by first | omega | assumption | decide) (by decide) (by decide) (by first | exact congrArg am_I (mkd_lo (by omega)) | exact congrArg am_I (mkd_hi (by omega)) | rfl) ?_
                        refine am_istore (i := 5) dM_rule_246 (by decide) ?_
                        refine am_iload (i := 4) dM_rule_248 rfl ?_
                        refine am_bipush (v := 11) dM_rule_250 (by decide) ?_
                        refine am_icmp_ne_F (tgt := 265) dM_rule_252 (by decide) c235 ?_
                        have ni : ¬ P (ix (P v 3)) 3 = -1 := (hP (ix (P v 3)) (by omega)).1.2.2.1 (by rw [← c214]; exact k2_of 11 (by grind) (by decide))
                        obtain ⟨gi, ei⟩ := ha.ix ni (by omega)
                        refine am_aload_n (i := 0) dM_rule_255 rfl rfl ?_
                        refine am_iload_n (i := 1) dM_rule_256 rfl rfl ?_
                        refine am_iload (i := 5) dM_rule_257 rfl ?_
                        refine am_callV (ac' := 0) (as' := 0) (xs := [_, _]) dM_rule_259 lkM_88 (by first | rfl | exact sk8 (by omega) | exact sk9 (by omega) | exact sk10 (by omega) | exact sk11 (by omega)) rfl rfl rfl rfl (Nat.le_of_ble_eq_true rfl) rfl rfl (cM_sameShape (v := v) (u := ix (P (ix (P v 3)) 3)) (by omega) (by omega) rfl ei (fun ch => ?_) (fun ch => ?_))
                        · refine am_if_eq_F (tgt := 276) dM_rule_262 (by decide) (by decide) ?_
                          refine am_aload_n (i := 0) dM_rule_265 rfl rfl ?_
                          refine am_getf dM_rule_266 flM_35 (by first | rfl | exact sk8 (by omega) | exact sk9 (by omega) | exact sk10 (by omega) | exact sk11 (by omega)) rfl ?_
                          refine am_iload_n (i := 1) dM_rule_269 rfl rfl ?_
                          refine am_iload (i := 5) dM_rule_270 rfl ?_
                          refine am_iast' dM_rule_272 (by first | rfl | exact sk8 (by omega) | exact sk9 (by omega) | exact sk10 (by omega) | exact sk11 (by omega)) rfl (by first | omega | assumption | decide) (by decide) (by decide) (by first | exact wm_kd (by omega) | exact wm_kh (by omega) | exact wm_fi (by omega) | exact wm_fh (by omega) | exact wm_se (by omega) | exact wm_sh (by omega) | exact wm_np (by omega) | exact wm_ph (by omega) | exact wm_nq (by omega) | exact wm_qh (by omega) | exact wm_ro | exact wm_co | exact wm_mm | exact wm_sd | exact wm_pa | exact wm_ce | exact wm_wd | exact wm_ud | exact wm_vn | exact wm_sm) ?_
                          refine am_goto (tgt := 284) dM_rule_273 (by decide) ?_
                          refine am_iconst (v := 5) dM_rule_284 (by decide) ?_
                          refine am_iret (st := []) rfl rfl dM_rule_285 ?_
                          have co : ¬ q_only P v := by grind
                          have en : q_neut P v = -1 := by unfold q_neut; rw [if_pos (q_res10 hkd c123), if_neg cs]
                          have z3 : ¬ q_z3 P v := by grind
                          have z4 : ¬ q_z4 P v := by grind
                          have tw : q_twi P v = P (ix (P v 3)) 3 := by unfold q_twi; rw [if_pos (by grind), if_pos c214.symm]
                          have ni : ¬ P (ix (P v 3)) 3 = -1 := (hP (ix (P v 3)) (by omega)).1.2.2.1 (by rw [← c214]; exact k2_of _ c235 (by decide))
                          have hne : ¬ q_twi P v = -1 := by rw [tw]; exact ni
                          obtain ⟨t6, -⟩ := q_twi_11 hP hv hn hne
                          have hr := ru5 co en z3 z4 hne
                          have hs : q_shp P v (ix (q_twi P v)) := by rw [tw]; exact ch
                          exact k _ _ _ (by rw [hr]; rfl) (by unfold q_tab; rw [if_neg (by omega), if_neg (by omega), if_neg (fun q => q.2 hs)]) (by rw [q_dir5 hr hs, tw, if_neg ni])
                        · refine am_if_eq_T (tgt := 276) dM_rule_262 (by decide) (by decide) ?_
                          refine am_aload_n (i := 0) dM_rule_276 rfl rfl ?_
                          refine am_getf dM_rule_277 flM_13 (by first | rfl | exact sk8 (by omega) | exact sk9 (by omega) | exact sk10 (by omega) | exact sk11 (by omega)) rfl ?_
                          refine am_iload_n (i := 1) dM_rule_280 rfl rfl ?_
                          refine am_iload (i := 5) dM_rule_281 rfl ?_
                          refine am_iast' dM_rule_283 (by first | rfl | exact sk8 (by omega) | exact sk9 (by omega) | exact sk10 (by omega) | exact sk11 (by omega)) rfl (by first | omega | assumption | decide) (by decide) (by decide) (by first | exact wm_kd (by omega) | exact wm_kh (by omega) | exact wm_fi (by omega) | exact wm_fh (by omega) | exact wm_se (by omega) | exact wm_sh (by omega) | exact wm_np (by omega) | exact wm_ph (by omega) | exact wm_nq (by omega) | exact wm_qh (by omega) | exact wm_ro | exact wm_co | exact wm_mm | exact wm_sd | exact wm_pa | exact wm_ce | exact wm_wd | exact wm_ud | exact wm_vn | exact wm_sm) ?_
                          refine am_iconst (v := 5) dM_rule_284 (by decide) ?_
                          refine am_iret (st := []) rfl rfl dM_rule_285 ?_
                          have co : ¬ q_only P v := by grind
                          have en : q_neut P v = -1 := by unfold q_neut; rw [if_pos (q_res10 hkd c123), if_neg cs]
                          have z3 : ¬ q_z3 P v := by grind
                          have z4 : ¬ q_z4 P v := by grind
                          have tw : q_twi P v = P (ix (P v 3)) 3 := by unfold q_twi; rw [if_pos (by grind), if_pos c214.symm]
                          have ni : ¬ P (ix (P v 3)) 3 = -1 := (hP (ix (P v 3)) (by omega)).1.2.2.1 (by rw [← c214]; exact k2_of _ c235 (by decide))
                          have hne : ¬ q_twi P v = -1 := by rw [tw]; exact ni
                          obtain ⟨t6, -⟩ := q_twi_11 hP hv hn hne
                          have hr := ru5 co en z3 z4 hne
                          have hs : ¬ q_shp P v (ix (q_twi P v)) := by rw [tw]; exact ch
                          exact k _ _ _ (by rw [hr]; rfl) (by unfold q_tab; rw [if_neg (by omega), if_neg (by omega), if_pos ⟨hr, hs⟩, tw]) (by rw [q_dir5n hr hs, if_pos rfl])
                      · refine am_iconst (v := 0) dM_rule_238 (by decide) ?_
                        refine am_iret (st := []) rfl rfl dM_rule_239 ?_
                        have co : ¬ q_only P v := by grind
                        have en : q_neut P v = -1 := by unfold q_neut; rw [if_pos (q_res10 hkd c123), if_neg cs]
                        have z3 : ¬ q_z3 P v := by grind
                        have z4 : ¬ q_z4 P v := by grind
                        have hr := ru0 co en z3 z4 (by unfold q_twi; grind)
                        exact k _ _ _ (by rw [hr]; rfl) (q_tab0 (Or.inl hr)).symm (by rw [q_dir0 (Or.inl hr), if_pos rfl])
              · refine am_iload_n (i := 2) dM_rule_192 rfl rfl ?_
                refine am_iload_n (i := 3) dM_rule_193 rfl rfl ?_
                refine am_icmp_ne (tgt := 206) dM_rule_194 (by decide) (fun c194 => ?_) (fun c194 => ?_)
                · refine am_iload (i := 4) dM_rule_206 rfl ?_
                  refine am_aload_n (i := 0) dM_rule_208 rfl rfl ?_
                  refine am_getf dM_rule_209 flM_7 (by first | rfl | exact sk8 (by omega) | exact sk9 (by omega) | exact sk10 (by omega) | exact sk11 (by omega)) rfl ?_
                  refine am_iload_n (i := 2) dM_rule_212 rfl rfl ?_
                  refine am_iald dM_rule_213 (by first | rfl | exact sk8 (by omega) | exact sk9 (by omega) | exact sk10 (by omega) | exact sk11 (by omega)) e3 (by first | omega | assumption | decide) (by decide) (by decide) (by first | exact congrArg am_I (mkd_lo (by omega)) | exact congrArg am_I (mkd_hi (by omega)) | rfl) ?_
                  refine am_icmp_ne (tgt := 238) dM_rule_214 (by decide) (fun c214 => ?_) (fun c214 => ?_)
                  · refine am_iconst (v := 0) dM_rule_238 (by decide) ?_
                    refine am_iret (st := []) rfl rfl dM_rule_239 ?_
                    have co : ¬ q_only P v := by grind
                    have en : q_neut P v = -1 := by unfold q_neut; rw [if_pos (q_res10 hkd c123), if_neg cs]
                    have z3 : ¬ q_z3 P v := by grind
                    have z4 : ¬ q_z4 P v := by grind
                    have hr := ru0 co en z3 z4 (by unfold q_twi; grind)
                    exact k _ _ _ (by rw [hr]; rfl) (q_tab0 (Or.inl hr)).symm (by rw [q_dir0 (Or.inl hr), if_pos rfl])
                  · refine am_iload (i := 4) dM_rule_217 rfl ?_
                    refine am_bipush (v := 6) dM_rule_219 (by decide) ?_
                    refine am_icmp_eq (tgt := 240) dM_rule_221 (by decide) (fun c221 => ?_) (fun c221 => ?_)
                    · have ha := (hP (ix (P v 3)) (by omega)).1.1
                      refine am_aload_n (i := 0) dM_rule_240 rfl rfl ?_
                      refine am_getf dM_rule_241 flM_13 (by first | rfl | exact sk8 (by omega) | exact sk9 (by omega) | exact sk10 (by omega) | exact sk11 (by omega)) rfl ?_
                      refine am_iload_n (i := 2) dM_rule_244 rfl rfl ?_
                      refine am_iald dM_rule_245 (by first | rfl | exact sk8 (by omega) | exact sk9 (by omega) | exact sk10 (by omega) | exact sk11 (by omega)) e3 (by first | omega | assumption | decide) (by decide) (by decide) (by first | exact congrArg am_I (mkd_lo (by omega)) | exact congrArg am_I (mkd_hi (by omega)) | rfl) ?_
                      refine am_istore (i := 5) dM_rule_246 (by decide) ?_
                      refine am_iload (i := 4) dM_rule_248 rfl ?_
                      refine am_bipush (v := 11) dM_rule_250 (by decide) ?_
                      refine am_icmp_ne_T (tgt := 265) dM_rule_252 (by decide) (by rw [c221]; decide) ?_
                      refine am_aload_n (i := 0) dM_rule_265 rfl rfl ?_
                      refine am_getf dM_rule_266 flM_35 (by first | rfl | exact sk8 (by omega) | exact sk9 (by omega) | exact sk10 (by omega) | exact sk11 (by omega)) rfl ?_
                      refine am_iload_n (i := 1) dM_rule_269 rfl rfl ?_
                      refine am_iload (i := 5) dM_rule_270 rfl ?_
                      refine am_iast' dM_rule_272 (by first | rfl | exact sk8 (by omega) | exact sk9 (by omega) | exact sk10 (by omega) | exact sk11 (by omega)) rfl (by first | omega | assumption | decide) (by decide) (by decide) (by first | exact wm_kd (by omega) | exact wm_kh (by omega) | exact wm_fi (by omega) | exact wm_fh (by omega) | exact wm_se (by omega) | exact wm_sh (by omega) | exact wm_np (by omega) | exact wm_ph (by omega) | exact wm_nq (by omega) | exact wm_qh (by omega) | exact wm_ro | exact wm_co | exact wm_mm | exact wm_sd | exact wm_pa | exact wm_ce | exact wm_wd | exact wm_ud | exact wm_vn | exact wm_sm) ?_
                      refine am_goto (tgt := 284) dM_rule_273 (by decide) ?_
                      refine am_iconst (v := 5) dM_rule_284 (by decide) ?_
                      refine am_iret (st := []) rfl rfl dM_rule_285 ?_
                      have co : ¬ q_only P v := by grind
                      have en : q_neut P v = -1 := by unfold q_neut; rw [if_pos (q_res10 hkd c123), if_neg cs]
                      have z3 : ¬ q_z3 P v := by grind
                      have z4 : ¬ q_z4 P v := by grind
                      have tw : q_twi P v = P (ix (P v 3)) 3 := by unfold q_twi; rw [if_pos (by grind), if_pos c214.symm]
                      have ni : ¬ P (ix (P v 3)) 3 = -1 := (hP (ix (P v 3)) (by omega)).1.2.2.1 (by rw [← c214]; exact k2_of _ c221 (by decide))
                      have hne : ¬ q_twi P v = -1 := by rw [tw]; exact ni
                      obtain ⟨t6, -⟩ := q_twi_11 hP hv hn hne
                      have hr := ru5 co en z3 z4 hne
                      have hs : q_shp P v (ix (q_twi P v)) := t6 (by grind)
                      exact k _ _ _ (by rw [hr]; rfl) (by unfold q_tab; rw [if_neg (by omega), if_neg (by omega), if_neg (fun q => q.2 hs)]) (by rw [q_dir5 hr hs, tw, if_neg ni])
                    · refine am_iload (i := 4) dM_rule_224 rfl ?_
                      refine am_bipush (v := 7) dM_rule_226 (by decide) ?_
                      refine am_icmp_eq (tgt := 240) dM_rule_228 (by decide) (fun c228 => ?_) (fun c228 => ?_)
                      · have ha := (hP (ix (P v 3)) (by omega)).1.1
                        refine am_aload_n (i := 0) dM_rule_240 rfl rfl ?_
                        refine am_getf dM_rule_241 flM_13 (by first | rfl | exact sk8 (by omega) | exact sk9 (by omega) | exact sk10 (by omega) | exact sk11 (by omega)) rfl ?_
                        refine am_iload_n (i := 2) dM_rule_244 rfl rfl ?_
                        refine am_iald dM_rule_245 (by first | rfl | exact sk8 (by omega) | exact sk9 (by omega) | exact sk10 (by omega) | exact sk11 (by omega)) e3 (by first | omega | assumption | decide) (by decide) (by decide) (by first | exact congrArg am_I (mkd_lo (by omega)) | exact congrArg am_I (mkd_hi (by omega)) | rfl) ?_
                        refine am_istore (i := 5) dM_rule_246 (by decide) ?_
                        refine am_iload (i := 4) dM_rule_248 rfl ?_
                        refine am_bipush (v := 11) dM_rule_250 (by decide) ?_
                        refine am_icmp_ne_T (tgt := 265) dM_rule_252 (by decide) (by rw [c228]; decide) ?_
                        refine am_aload_n (i := 0) dM_rule_265 rfl rfl ?_
                        refine am_getf dM_rule_266 flM_35 (by first | rfl | exact sk8 (by omega) | exact sk9 (by omega) | exact sk10 (by omega) | exact sk11 (by omega)) rfl ?_
                        refine am_iload_n (i := 1) dM_rule_269 rfl rfl ?_
                        refine am_iload (i := 5) dM_rule_270 rfl ?_
                        refine am_iast' dM_rule_272 (by first | rfl | exact sk8 (by omega) | exact sk9 (by omega) | exact sk10 (by omega) | exact sk11 (by omega)) rfl (by first | omega | assumption | decide) (by decide) (by decide) (by first | exact wm_kd (by omega) | exact wm_kh (by omega) | exact wm_fi (by omega) | exact wm_fh (by omega) | exact wm_se (by omega) | exact wm_sh (by omega) | exact wm_np (by omega) | exact wm_ph (by omega) | exact wm_nq (by omega) | exact wm_qh (by omega) | exact wm_ro | exact wm_co | exact wm_mm | exact wm_sd | exact wm_pa | exact wm_ce | exact wm_wd | exact wm_ud | exact wm_vn | exact wm_sm) ?_
                        refine am_goto (tgt := 284) dM_rule_273 (by decide) ?_
                        refine am_iconst (v := 5) dM_rule_284 (by decide) ?_
                        refine am_iret (st := []) rfl rfl dM_rule_285 ?_
                        have co : ¬ q_only P v := by grind
                        have en : q_neut P v = -1 := by unfold q_neut; rw [if_pos (q_res10 hkd c123), if_neg cs]
                        have z3 : ¬ q_z3 P v := by grind
                        have z4 : ¬ q_z4 P v := by grind
                        have tw : q_twi P v = P (ix (P v 3)) 3 := by unfold q_twi; rw [if_pos (by grind), if_pos c214.symm]
                        have ni : ¬ P (ix (P v 3)) 3 = -1 := (hP (ix (P v 3)) (by omega)).1.2.2.1 (by rw [← c214]; exact k2_of _ c228 (by decide))
                        have hne : ¬ q_twi P v = -1 := by rw [tw]; exact ni
                        obtain ⟨t6, -⟩ := q_twi_11 hP hv hn hne
                        have hr := ru5 co en z3 z4 hne
                        have hs : q_shp P v (ix (q_twi P v)) := t6 (by grind)
                        exact k _ _ _ (by rw [hr]; rfl) (by unfold q_tab; rw [if_neg (by omega), if_neg (by omega), if_neg (fun q => q.2 hs)]) (by rw [q_dir5 hr hs, tw, if_neg ni])
                      · refine am_iload (i := 4) dM_rule_231 rfl ?_
                        refine am_bipush (v := 11) dM_rule_233 (by decide) ?_
                        refine am_icmp_eq (tgt := 240) dM_rule_235 (by decide) (fun c235 => ?_) (fun c235 => ?_)
                        · have ha := (hP (ix (P v 3)) (by omega)).1.1
                          refine am_aload_n (i := 0) dM_rule_240 rfl rfl ?_
                          refine am_getf dM_rule_241 flM_13 (by first | rfl | exact sk8 (by omega) | exact sk9 (by omega) | exact sk10 (by omega) | exact sk11 (by omega)) rfl ?_
                          refine am_iload_n (i := 2) dM_rule_244 rfl rfl ?_
                          refine am_iald dM_rule_245 (by first | rfl | exact sk8 (by omega) | exact sk9 (by omega) | exact sk10 (by omega) | exact sk11 (by omega)) e3 (by first | omega | assumption | decide) (by decide) (by decide) (by first | exact congrArg am_I (mkd_lo (by omega)) | exact congrArg am_I (mkd_hi (by omega)) | rfl) ?_
                          refine am_istore (i := 5) dM_rule_246 (by decide) ?_
                          refine am_iload (i := 4) dM_rule_248 rfl ?_
                          refine am_bipush (v := 11) dM_rule_250 (by decide) ?_
                          refine am_icmp_ne_F (tgt := 265) dM_rule_252 (by decide) c235 ?_
                          have ni : ¬ P (ix (P v 3)) 3 = -1 := (hP (ix (P v 3)) (by omega)).1.2.2.1 (by rw [← c214]; exact k2_of 11 (by grind) (by decide))
                          obtain ⟨gi, ei⟩ := ha.ix ni (by omega)
                          refine am_aload_n (i := 0) dM_rule_255 rfl rfl ?_
                          refine am_iload_n (i := 1) dM_rule_256 rfl rfl ?_
                          refine am_iload (i := 5) dM_rule_257 rfl ?_
                          refine am_callV (ac' := 0) (as' := 0) (xs := [_, _]) dM_rule_259 lkM_88 (by first | rfl | exact sk8 (by omega) | exact sk9 (by omega) | exact sk10 (by omega) | exact sk11 (by omega)) rfl rfl rfl rfl (Nat.le_of_ble_eq_true rfl) rfl rfl (cM_sameShape (v := v) (u := ix (P (ix (P v 3)) 3)) (by omega) (by omega) rfl ei (fun ch => ?_) (fun ch => ?_))
                          · refine am_if_eq_F (tgt := 276) dM_rule_262 (by decide) (by decide) ?_
                            refine am_aload_n (i := 0) dM_rule_265 rfl rfl ?_
                            refine am_getf dM_rule_266 flM_35 (by first | rfl | exact sk8 (by omega) | exact sk9 (by omega) | exact sk10 (by omega) | exact sk11 (by omega)) rfl ?_
                            refine am_iload_n (i := 1) dM_rule_269 rfl rfl ?_
                            refine am_iload (i := 5) dM_rule_270 rfl ?_
                            refine am_iast' dM_rule_272 (by first | rfl | exact sk8 (by omega) | exact sk9 (by omega) | exact sk10 (by omega) | exact sk11 (by omega)) rfl (by first | omega | assumption | decide) (by decide) (by decide) (by first | exact wm_kd (by omega) | exact wm_kh (by omega) | exact wm_fi (by omega) | exact wm_fh (by omega) | exact wm_se (by omega) | exact wm_sh (by omega) | exact wm_np (by omega) | exact wm_ph (by omega) | exact wm_nq (by omega) | exact wm_qh (by omega) | exact wm_ro | exact wm_co | exact wm_mm | exact wm_sd | exact wm_pa | exact wm_ce | exact wm_wd | exact wm_ud | exact wm_vn | exact wm_sm) ?_
                            refine am_goto (tgt := 284) dM_rule_273 (by decide) ?_
                            refine am_iconst (v := 5) dM_rule_284 (by decide) ?_
                            refine am_iret (st := []) rfl rfl dM_rule_285 ?_
                            have co : ¬ q_only P v := by grind
                            have en : q_neut P v = -1 := by unfold q_neut; rw [if_pos (q_res10 hkd c123), if_neg cs]
                            have z3 : ¬ q_z3 P v := by grind
                            have z4 : ¬ q_z4 P v := by grind
                            have tw : q_twi P v = P (ix (P v 3)) 3 := by unfold q_twi; rw [if_pos (by grind), if_pos c214.symm]
                            have ni : ¬ P (ix (P v 3)) 3 = -1 := (hP (ix (P v 3)) (by omega)).1.2.2.1 (by rw [← c214]; exact k2_of _ c235 (by decide))
                            have hne : ¬ q_twi P v = -1 := by rw [tw]; exact ni
                            obtain ⟨t6, -⟩ := q_twi_11 hP hv hn hne
                            have hr := ru5 co en z3 z4 hne
                            have hs : q_shp P v (ix (q_twi P v)) := by rw [tw]; exact ch
                            exact k _ _ _ (by rw [hr]; rfl) (by unfold q_tab; rw [if_neg (by omega), if_neg (by omega), if_neg (fun q => q.2 hs)]) (by rw [q_dir5 hr hs, tw, if_neg ni])
                          · refine am_if_eq_T (tgt := 276) dM_rule_262 (by decide) (by decide) ?_
                            refine am_aload_n (i := 0) dM_rule_276 rfl rfl ?_
                            refine am_getf dM_rule_277 flM_13 (by first | rfl | exact sk8 (by omega) | exact sk9 (by omega) | exact sk10 (by omega) | exact sk11 (by omega)) rfl ?_
                            refine am_iload_n (i := 1) dM_rule_280 rfl rfl ?_
                            refine am_iload (i := 5) dM_rule_281 rfl ?_
                            refine am_iast' dM_rule_283 (by first | rfl | exact sk8 (by omega) | exact sk9 (by omega) | exact sk10 (by omega) | exact sk11 (by omega)) rfl (by first | omega | assumption | decide) (by decide) (by decide) (by first | exact wm_kd (by omega) | exact wm_kh (by omega) | exact wm_fi (by omega) | exact wm_fh (by omega) | exact wm_se (by omega) | exact wm_sh (by omega) | exact wm_np (by omega) | exact wm_ph (by omega) | exact wm_nq (by omega) | exact wm_qh (by omega) | exact wm_ro | exact wm_co | exact wm_mm | exact wm_sd | exact wm_pa | exact wm_ce | exact wm_wd | exact wm_ud | exact wm_vn | exact wm_sm) ?_
                            refine am_iconst (v := 5) dM_rule_284 (by decide) ?_
                            refine am_iret (st := []) rfl rfl dM_rule_285 ?_
                            have co : ¬ q_only P v := by grind
                            have en : q_neut P v = -1 := by unfold q_neut; rw [if_pos (q_res10 hkd c123), if_neg cs]
                            have z3 : ¬ q_z3 P v := by grind
                            have z4 : ¬ q_z4 P v := by grind
                            have tw : q_twi P v = P (ix (P v 3)) 3 := by unfold q_twi; rw [if_pos (by grind), if_pos c214.symm]
                            have ni : ¬ P (ix (P v 3)) 3 = -1 := (hP (ix (P v 3)) (by omega)).1.2.2.1 (by rw [← c214]; exact k2_of _ c235 (by decide))
                            have hne : ¬ q_twi P v = -1 := by rw [tw]; exact ni
                            obtain ⟨t6, -⟩ := q_twi_11 hP hv hn hne
                            have hr := ru5 co en z3 z4 hne
                            have hs : ¬ q_shp P v (ix (q_twi P v)) := by rw [tw]; exact ch
                            exact k _ _ _ (by rw [hr]; rfl) (by unfold q_tab; rw [if_neg (by omega), if_neg (by omega), if_pos ⟨hr, hs⟩, tw]) (by rw [q_dir5n hr hs, if_pos rfl])
                        · refine am_iconst (v := 0) dM_rule_238 (by decide) ?_
                          refine am_iret (st := []) rfl rfl dM_rule_239 ?_
                          have co : ¬ q_only P v := by grind
                          have en : q_neut P v = -1 := by unfold q_neut; rw [if_pos (q_res10 hkd c123), if_neg cs]
                          have z3 : ¬ q_z3 P v := by grind
                          have z4 : ¬ q_z4 P v := by grind
                          have hr := ru0 co en z3 z4 (by unfold q_twi; grind)
                          exact k _ _ _ (by rw [hr]; rfl) (q_tab0 (Or.inl hr)).symm (by rw [q_dir0 (Or.inl hr), if_pos rfl])
                · refine am_aload_n (i := 0) dM_rule_197 rfl rfl ?_
                  refine am_getf dM_rule_198 flM_35 (by first | rfl | exact sk8 (by omega) | exact sk9 (by omega) | exact sk10 (by omega) | exact sk11 (by omega)) rfl ?_
                  refine am_iload_n (i := 1) dM_rule_201 rfl rfl ?_
                  refine am_iload_n (i := 2) dM_rule_202 rfl rfl ?_
                  refine am_iast' dM_rule_203 (by first | rfl | exact sk8 (by omega) | exact sk9 (by omega) | exact sk10 (by omega) | exact sk11 (by omega)) rfl (by first | omega | assumption | decide) (by decide) (by decide) (by first | exact wm_kd (by omega) | exact wm_kh (by omega) | exact wm_fi (by omega) | exact wm_fh (by omega) | exact wm_se (by omega) | exact wm_sh (by omega) | exact wm_np (by omega) | exact wm_ph (by omega) | exact wm_nq (by omega) | exact wm_qh (by omega) | exact wm_ro | exact wm_co | exact wm_mm | exact wm_sd | exact wm_pa | exact wm_ce | exact wm_wd | exact wm_ud | exact wm_vn | exact wm_sm) ?_
                  refine am_iconst (v := 4) dM_rule_204 (by decide) ?_
                  refine am_iret (st := []) rfl rfl dM_rule_205 ?_
                  have co : ¬ q_only P v := by grind
                  have en : q_neut P v = -1 := by unfold q_neut; rw [if_pos (q_res10 hkd c123), if_neg cs]
                  have z3 : ¬ q_z3 P v := by grind
                  have hr := ru4 co en z3 (by grind)
                  exact k _ _ _ (by rw [hr]; rfl) (q_tab0 (Or.inr (Or.inr hr))).symm (by rw [q_dir4 hr, if_neg n3])
        · have h34 : P v 0 = 3 ∨ P v 0 = 4 := by first | exact Or.inl c67 | exact Or.inr c73
          have n4 : ¬ P v 4 = -1 := b6 (by grind)
          obtain ⟨g4, e4⟩ := b4.ix n4 (by omega)
          refine am_iload (i := 4) dM_rule_76 rfl ?_
          refine am_iconst (v := 3) dM_rule_78 (by decide) ?_
          refine am_isub dM_rule_79 ?_
          refine am_sT (st' := am_I (if P v 0 = 3 then 0 else 1) :: _) (congrArg (fun z => am_I z :: _) (q_neu34 h34)) ?_
          refine am_istore (i := 5) dM_rule_80 (by decide) ?_
          refine am_aload_n (i := 0) dM_rule_82 rfl rfl ?_
          refine am_iload_n (i := 2) dM_rule_83 rfl rfl ?_
          refine am_iload (i := 5) dM_rule_84 rfl ?_
          refine am_callV (ac' := 0) (as' := 0) (xs := [_, _]) dM_rule_86 lkM_84 (by first | rfl | exact sk8 (by omega) | exact sk9 (by omega) | exact sk10 (by omega) | exact sk11 (by omega)) rfl rfl rfl rfl (Nat.le_of_ble_eq_true rfl) rfl rfl (cM_splat (by omega) e3 (fun ca => ?_) (fun ca => ?_))
          · refine am_if_eq_F (tgt := 102) dM_rule_89 (by decide) (by decide) ?_
            refine am_aload_n (i := 0) dM_rule_92 rfl rfl ?_
            refine am_getf dM_rule_93 flM_35 (by first | rfl | exact sk8 (by omega) | exact sk9 (by omega) | exact sk10 (by omega) | exact sk11 (by omega)) rfl ?_
            refine am_iload_n (i := 1) dM_rule_96 rfl rfl ?_
            refine am_iload_n (i := 3) dM_rule_97 rfl rfl ?_
            refine am_iast' dM_rule_98 (by first | rfl | exact sk8 (by omega) | exact sk9 (by omega) | exact sk10 (by omega) | exact sk11 (by omega)) rfl (by first | omega | assumption | decide) (by decide) (by decide) (by first | exact wm_kd (by omega) | exact wm_kh (by omega) | exact wm_fi (by omega) | exact wm_fh (by omega) | exact wm_se (by omega) | exact wm_sh (by omega) | exact wm_np (by omega) | exact wm_ph (by omega) | exact wm_nq (by omega) | exact wm_qh (by omega) | exact wm_ro | exact wm_co | exact wm_mm | exact wm_sd | exact wm_pa | exact wm_ce | exact wm_wd | exact wm_ud | exact wm_vn | exact wm_sm) ?_
            refine am_goto (tgt := 119) dM_rule_99 (by decide) ?_
            refine am_iload (i := 4) dM_rule_119 rfl ?_
            refine am_bipush (v := 10) dM_rule_121 (by decide) ?_
            refine am_icmp_lt_T (tgt := 142) dM_rule_123 (by decide) (by rw [c73]; decide) ?_
            refine am_aload_n (i := 0) dM_rule_142 rfl rfl ?_
            refine am_getf dM_rule_143 flM_35 (by first | rfl | exact sk8 (by omega) | exact sk9 (by omega) | exact sk10 (by omega) | exact sk11 (by omega)) rfl ?_
            refine am_iload_n (i := 1) dM_rule_146 rfl rfl ?_
            refine am_iald dM_rule_147 (by first | rfl | exact sk8 (by omega) | exact sk9 (by omega) | exact sk10 (by omega) | exact sk11 (by omega)) rfl (by first | omega | assumption | decide) (by decide) (by decide) (by first | exact congrArg am_I (upd_eq _ _ _) | rfl) ?_
            refine am_iload_n (i := 1) dM_rule_148 rfl rfl ?_
            refine am_icmp_eq_F (tgt := 154) dM_rule_149 (by decide) (q_arg_ne b4 n4 (by omega)) ?_
            refine am_iconst (v := 2) dM_rule_152 (by decide) ?_
            refine am_iret (st := []) rfl rfl dM_rule_153 ?_
            have co : ¬ q_only P v := by grind
            have en : q_neut P v = P v 4 := by unfold q_neut; grind
            have hr := ru2 co (by rw [en]; exact n4)
            exact k _ _ _ (by rw [hr]; rfl) (q_tab0 (Or.inr (Or.inl hr))).symm (by rw [q_dir2 hr, en, if_neg n4])
          · refine am_if_eq_T (tgt := 102) dM_rule_89 (by decide) (by decide) ?_
            refine am_aload_n (i := 0) dM_rule_102 rfl rfl ?_
            refine am_iload_n (i := 3) dM_rule_103 rfl rfl ?_
            refine am_iload (i := 5) dM_rule_104 rfl ?_
            refine am_callV (ac' := 0) (as' := 0) (xs := [_, _]) dM_rule_106 lkM_84 (by first | rfl | exact sk8 (by omega) | exact sk9 (by omega) | exact sk10 (by omega) | exact sk11 (by omega)) rfl rfl rfl rfl (Nat.le_of_ble_eq_true rfl) rfl rfl (cM_splat (by omega) e4 (fun cb => ?_) (fun cb => ?_))
            · refine am_if_eq_F (tgt := 119) dM_rule_109 (by decide) (by decide) ?_
              refine am_aload_n (i := 0) dM_rule_112 rfl rfl ?_
              refine am_getf dM_rule_113 flM_35 (by first | rfl | exact sk8 (by omega) | exact sk9 (by omega) | exact sk10 (by omega) | exact sk11 (by omega)) rfl ?_
              refine am_iload_n (i := 1) dM_rule_116 rfl rfl ?_
              refine am_iload_n (i := 2) dM_rule_117 rfl rfl ?_
              refine am_iast' dM_rule_118 (by first | rfl | exact sk8 (by omega) | exact sk9 (by omega) | exact sk10 (by omega) | exact sk11 (by omega)) rfl (by first | omega | assumption | decide) (by decide) (by decide) (by first | exact wm_kd (by omega) | exact wm_kh (by omega) | exact wm_fi (by omega) | exact wm_fh (by omega) | exact wm_se (by omega) | exact wm_sh (by omega) | exact wm_np (by omega) | exact wm_ph (by omega) | exact wm_nq (by omega) | exact wm_qh (by omega) | exact wm_ro | exact wm_co | exact wm_mm | exact wm_sd | exact wm_pa | exact wm_ce | exact wm_wd | exact wm_ud | exact wm_vn | exact wm_sm) ?_
              refine am_iload (i := 4) dM_rule_119 rfl ?_
              refine am_bipush (v := 10) dM_rule_121 (by decide) ?_
              refine am_icmp_lt_T (tgt := 142) dM_rule_123 (by decide) (by rw [c73]; decide) ?_
              refine am_aload_n (i := 0) dM_rule_142 rfl rfl ?_
              refine am_getf dM_rule_143 flM_35 (by first | rfl | exact sk8 (by omega) | exact sk9 (by omega) | exact sk10 (by omega) | exact sk11 (by omega)) rfl ?_
              refine am_iload_n (i := 1) dM_rule_146 rfl rfl ?_
              refine am_iald dM_rule_147 (by first | rfl | exact sk8 (by omega) | exact sk9 (by omega) | exact sk10 (by omega) | exact sk11 (by omega)) rfl (by first | omega | assumption | decide) (by decide) (by decide) (by first | exact congrArg am_I (upd_eq _ _ _) | rfl) ?_
              refine am_iload_n (i := 1) dM_rule_148 rfl rfl ?_
              refine am_icmp_eq_F (tgt := 154) dM_rule_149 (by decide) (q_arg_ne b3 n3 (by omega)) ?_
              refine am_iconst (v := 2) dM_rule_152 (by decide) ?_
              refine am_iret (st := []) rfl rfl dM_rule_153 ?_
              have co : ¬ q_only P v := by grind
              have en : q_neut P v = P v 3 := by unfold q_neut; grind
              have hr := ru2 co (by rw [en]; exact n3)
              exact k _ _ _ (by rw [hr]; rfl) (q_tab0 (Or.inr (Or.inl hr))).symm (by rw [q_dir2 hr, en, if_neg n3])
            · refine am_if_eq_T (tgt := 119) dM_rule_109 (by decide) (by decide) ?_
              refine am_iload (i := 4) dM_rule_119 rfl ?_
              refine am_bipush (v := 10) dM_rule_121 (by decide) ?_
              refine am_icmp_lt_T (tgt := 142) dM_rule_123 (by decide) (by rw [c73]; decide) ?_
              refine am_aload_n (i := 0) dM_rule_142 rfl rfl ?_
              refine am_getf dM_rule_143 flM_35 (by first | rfl | exact sk8 (by omega) | exact sk9 (by omega) | exact sk10 (by omega) | exact sk11 (by omega)) rfl ?_
              refine am_iload_n (i := 1) dM_rule_146 rfl rfl ?_
              refine am_iald dM_rule_147 (by first | rfl | exact sk8 (by omega) | exact sk9 (by omega) | exact sk10 (by omega) | exact sk11 (by omega)) rfl (by first | omega | assumption | decide) (by decide) (by decide) (by first | exact congrArg am_I (upd_eq _ _ _) | rfl) ?_
              refine am_iload_n (i := 1) dM_rule_148 rfl rfl ?_
              refine am_icmp_eq_T (tgt := 154) dM_rule_149 (by decide) hst ?_
              refine am_iload (i := 4) dM_rule_154 rfl ?_
              refine am_iconst (v := 4) dM_rule_156 (by decide) ?_
              refine am_icmp_ne_F (tgt := 186) dM_rule_157 (by decide) c73 ?_
              have l4 : ¬ P v 4 = -1 := b6 (by grind)
              obtain ⟨x4, y4⟩ := b4.ix l4 (by omega)
              refine am_aload_n (i := 0) dM_rule_160 rfl rfl ?_
              refine am_iload_n (i := 2) dM_rule_161 rfl rfl ?_
              refine am_iconst (v := 0) dM_rule_162 (by decide) ?_
              refine am_callV (ac' := 0) (as' := 0) (xs := [_, _]) dM_rule_163 lkM_84 (by first | rfl | exact sk8 (by omega) | exact sk9 (by omega) | exact sk10 (by omega) | exact sk11 (by omega)) rfl rfl rfl rfl (Nat.le_of_ble_eq_true rfl) rfl rfl (cM_splat (by omega) e3 (fun cx => ?_) (fun cx => ?_))
              · refine am_if_ne_T (tgt := 178) dM_rule_166 (by decide) (by decide) ?_
                refine am_aload_n (i := 0) dM_rule_178 rfl rfl ?_
                refine am_iload_n (i := 1) dM_rule_179 rfl rfl ?_
                refine am_iconst (v := 0) dM_rule_180 (by decide) ?_
                refine am_callV (ac' := 0) (as' := 0) (xs := [_, _]) dM_rule_181 lkM_80 (by first | rfl | exact sk8 (by omega) | exact sk9 (by omega) | exact sk10 (by omega) | exact sk11 (by omega)) rfl rfl rfl rfl (Nat.le_of_ble_eq_true rfl) rfl rfl (cM_become (by omega) ?_)
                refine am_iconst (v := 3) dM_rule_184 (by decide) ?_
                refine am_iret (st := []) rfl rfl dM_rule_185 ?_
                have co : ¬ q_only P v := by grind
                have en : q_neut P v = -1 := by unfold q_neut; grind
                have hr := ru3 co en (by grind)
                exact k _ _ _ (by rw [hr]; rfl) (by unfold q_tab; rw [if_neg (by omega), if_pos hr]) (by rw [q_dir0 (Or.inr (Or.inr hr)), if_pos rfl])
              · refine am_if_ne_F (tgt := 178) dM_rule_166 (by decide) (by decide) ?_
                refine am_aload_n (i := 0) dM_rule_169 rfl rfl ?_
                refine am_iload_n (i := 3) dM_rule_170 rfl rfl ?_
                refine am_iconst (v := 0) dM_rule_171 (by decide) ?_
                refine am_callV (ac' := 0) (as' := 0) (xs := [_, _]) dM_rule_172 lkM_84 (by first | rfl | exact sk8 (by omega) | exact sk9 (by omega) | exact sk10 (by omega) | exact sk11 (by omega)) rfl rfl rfl rfl (Nat.le_of_ble_eq_true rfl) rfl rfl (cM_splat (by omega) y4 (fun cy => ?_) (fun cy => ?_))
                · refine am_if_eq_F (tgt := 186) dM_rule_175 (by decide) (by decide) ?_
                  refine am_aload_n (i := 0) dM_rule_178 rfl rfl ?_
                  refine am_iload_n (i := 1) dM_rule_179 rfl rfl ?_
                  refine am_iconst (v := 0) dM_rule_180 (by decide) ?_
                  refine am_callV (ac' := 0) (as' := 0) (xs := [_, _]) dM_rule_181 lkM_80 (by first | rfl | exact sk8 (by omega) | exact sk9 (by omega) | exact sk10 (by omega) | exact sk11 (by omega)) rfl rfl rfl rfl (Nat.le_of_ble_eq_true rfl) rfl rfl (cM_become (by omega) ?_)
                  refine am_iconst (v := 3) dM_rule_184 (by decide) ?_
                  refine am_iret (st := []) rfl rfl dM_rule_185 ?_
                  have co : ¬ q_only P v := by grind
                  have en : q_neut P v = -1 := by unfold q_neut; grind
                  have hr := ru3 co en (by grind)
                  exact k _ _ _ (by rw [hr]; rfl) (by unfold q_tab; rw [if_neg (by omega), if_pos hr]) (by rw [q_dir0 (Or.inr (Or.inr hr)), if_pos rfl])
                · refine am_if_eq_T (tgt := 186) dM_rule_175 (by decide) (by decide) ?_
                  refine am_iload (i := 4) dM_rule_186 rfl ?_
                  refine am_iconst (v := 5) dM_rule_188 (by decide) ?_
                  refine am_icmp_ne_T (tgt := 206) dM_rule_189 (by decide) (by rw [c73]; decide) ?_
                  refine am_iload (i := 4) dM_rule_206 rfl ?_
                  refine am_aload_n (i := 0) dM_rule_208 rfl rfl ?_
                  refine am_getf dM_rule_209 flM_7 (by first | rfl | exact sk8 (by omega) | exact sk9 (by omega) | exact sk10 (by omega) | exact sk11 (by omega)) rfl ?_
                  refine am_iload_n (i := 2) dM_rule_212 rfl rfl ?_
                  refine am_iald dM_rule_213 (by first | rfl | exact sk8 (by omega) | exact sk9 (by omega) | exact sk10 (by omega) | exact sk11 (by omega)) e3 (by first | omega | assumption | decide) (by decide) (by decide) (by first | exact congrArg am_I (mkd_lo (by omega)) | exact congrArg am_I (mkd_hi (by omega)) | rfl) ?_
                  refine am_icmp_ne (tgt := 238) dM_rule_214 (by decide) (fun c214 => ?_) (fun c214 => ?_)
                  · refine am_iconst (v := 0) dM_rule_238 (by decide) ?_
                    refine am_iret (st := []) rfl rfl dM_rule_239 ?_
                    have co : ¬ q_only P v := by grind
                    have en : q_neut P v = -1 := by unfold q_neut; grind
                    have z3 : ¬ q_z3 P v := by grind
                    have z4 : ¬ q_z4 P v := by grind
                    have hr := ru0 co en z3 z4 (by unfold q_twi; grind)
                    exact k _ _ _ (by rw [hr]; rfl) (q_tab0 (Or.inl hr)).symm (by rw [q_dir0 (Or.inl hr), if_pos rfl])
                  · refine am_iload (i := 4) dM_rule_217 rfl ?_
                    refine am_bipush (v := 6) dM_rule_219 (by decide) ?_
                    refine am_icmp_eq_F (tgt := 240) dM_rule_221 (by decide) (by rw [c73]; decide) ?_
                    refine am_iload (i := 4) dM_rule_224 rfl ?_
                    refine am_bipush (v := 7) dM_rule_226 (by decide) ?_
                    refine am_icmp_eq_F (tgt := 240) dM_rule_228 (by decide) (by rw [c73]; decide) ?_
                    refine am_iload (i := 4) dM_rule_231 rfl ?_
                    refine am_bipush (v := 11) dM_rule_233 (by decide) ?_
                    refine am_icmp_eq_F (tgt := 240) dM_rule_235 (by decide) (by rw [c73]; decide) ?_
                    refine am_iconst (v := 0) dM_rule_238 (by decide) ?_
                    refine am_iret (st := []) rfl rfl dM_rule_239 ?_
                    have co : ¬ q_only P v := by grind
                    have en : q_neut P v = -1 := by unfold q_neut; grind
                    have z3 : ¬ q_z3 P v := by grind
                    have z4 : ¬ q_z4 P v := by grind
                    have hr := ru0 co en z3 z4 (by unfold q_twi; grind)
                    exact k _ _ _ (by rw [hr]; rfl) (q_tab0 (Or.inl hr)).symm (by rw [q_dir0 (Or.inl hr), if_pos rfl])
    · refine am_iload_n (i := 3) dM_rule_38 rfl rfl ?_
      refine am_if_lt (tgt := 52) dM_rule_39 (by decide) (fun c39 => ?_) (fun c39 => ?_)
      · refine am_aload_n (i := 0) dM_rule_52 rfl rfl ?_
        refine am_iload_n (i := 1) dM_rule_53 rfl rfl ?_
        refine am_aload_n (i := 0) dM_rule_54 rfl rfl ?_
        refine am_iload_n (i := 1) dM_rule_55 rfl rfl ?_
        refine am_callV (ac' := 0) (as' := 0) (xs := [_]) dM_rule_56 lkM_76 (by first | rfl | exact sk8 (by omega) | exact sk9 (by omega) | exact sk10 (by omega) | exact sk11 (by omega)) rfl rfl rfl rfl (Nat.le_of_ble_eq_true rfl) rfl rfl (cM_folded (by omega) b3 b4 n3 (fun xf ef => ?_))
        refine am_callV (ac' := 0) (as' := 0) (xs := [_, _]) dM_rule_59 lkM_80 (by first | rfl | exact sk8 (by omega) | exact sk9 (by omega) | exact sk10 (by omega) | exact sk11 (by omega)) rfl rfl rfl rfl (Nat.le_of_ble_eq_true rfl) rfl rfl (cM_become (by omega) ?_)
        refine am_iconst (v := 1) dM_rule_62 (by decide) ?_
        refine am_iret (st := []) rfl rfl dM_rule_63 ?_
        have co : q_only P v := ⟨n3, c35, Or.inl ((q_arg_neg b4 (by omega)).1.mp c39)⟩
        have hr := ru1 co
        exact k _ _ _ (by rw [hr]; rfl) (by unfold q_tab; rw [if_pos hr, ef]) (by rw [q_dir0 (Or.inr (Or.inl hr)), if_pos rfl])
      · have m4 : ¬ P v 4 = -1 := fun q => c39 ((q_arg_neg b4 (by omega)).1.mpr q)
        obtain ⟨i4, j4⟩ := b4.ix m4 (by omega)
        refine am_aload_n (i := 0) dM_rule_42 rfl rfl ?_
        refine am_getf dM_rule_43 flM_7 (by first | rfl | exact sk8 (by omega) | exact sk9 (by omega) | exact sk10 (by omega) | exact sk11 (by omega)) rfl ?_
        refine am_iload_n (i := 3) dM_rule_46 rfl rfl ?_
        refine am_iald dM_rule_47 (by first | rfl | exact sk8 (by omega) | exact sk9 (by omega) | exact sk10 (by omega) | exact sk11 (by omega)) j4 (by first | omega | assumption | decide) (by decide) (by decide) (by first | exact congrArg am_I (mkd_lo (by omega)) | exact congrArg am_I (mkd_hi (by omega)) | rfl) ?_
        refine am_iconst (v := 1) dM_rule_48 (by decide) ?_
        refine am_icmp_ne (tgt := 64) dM_rule_49 (by decide) (fun c49 => ?_) (fun c49 => ?_)
        · refine am_iload (i := 4) dM_rule_64 rfl ?_
          refine am_iconst (v := 3) dM_rule_66 (by decide) ?_
          refine am_icmp_eq (tgt := 76) dM_rule_67 (by decide) (fun c67 => ?_) (fun c67 => ?_)
          · have h34 : P v 0 = 3 ∨ P v 0 = 4 := by first | exact Or.inl c67 | exact Or.inr c73
            have n4 : ¬ P v 4 = -1 := b6 (by grind)
            obtain ⟨g4, e4⟩ := b4.ix n4 (by omega)
            refine am_iload (i := 4) dM_rule_76 rfl ?_
            refine am_iconst (v := 3) dM_rule_78 (by decide) ?_
            refine am_isub dM_rule_79 ?_
            refine am_sT (st' := am_I (if P v 0 = 3 then 0 else 1) :: _) (congrArg (fun z => am_I z :: _) (q_neu34 h34)) ?_
            refine am_istore (i := 5) dM_rule_80 (by decide) ?_
            refine am_aload_n (i := 0) dM_rule_82 rfl rfl ?_
            refine am_iload_n (i := 2) dM_rule_83 rfl rfl ?_
            refine am_iload (i := 5) dM_rule_84 rfl ?_
            refine am_callV (ac' := 0) (as' := 0) (xs := [_, _]) dM_rule_86 lkM_84 (by first | rfl | exact sk8 (by omega) | exact sk9 (by omega) | exact sk10 (by omega) | exact sk11 (by omega)) rfl rfl rfl rfl (Nat.le_of_ble_eq_true rfl) rfl rfl (cM_splat (by omega) e3 (fun ca => ?_) (fun ca => ?_))
            · refine am_if_eq_F (tgt := 102) dM_rule_89 (by decide) (by decide) ?_
              refine am_aload_n (i := 0) dM_rule_92 rfl rfl ?_
              refine am_getf dM_rule_93 flM_35 (by first | rfl | exact sk8 (by omega) | exact sk9 (by omega) | exact sk10 (by omega) | exact sk11 (by omega)) rfl ?_
              refine am_iload_n (i := 1) dM_rule_96 rfl rfl ?_
              refine am_iload_n (i := 3) dM_rule_97 rfl rfl ?_
              refine am_iast' dM_rule_98 (by first | rfl | exact sk8 (by omega) | exact sk9 (by omega) | exact sk10 (by omega) | exact sk11 (by omega)) rfl (by first | omega | assumption | decide) (by decide) (by decide) (by first | exact wm_kd (by omega) | exact wm_kh (by omega) | exact wm_fi (by omega) | exact wm_fh (by omega) | exact wm_se (by omega) | exact wm_sh (by omega) | exact wm_np (by omega) | exact wm_ph (by omega) | exact wm_nq (by omega) | exact wm_qh (by omega) | exact wm_ro | exact wm_co | exact wm_mm | exact wm_sd | exact wm_pa | exact wm_ce | exact wm_wd | exact wm_ud | exact wm_vn | exact wm_sm) ?_
              refine am_goto (tgt := 119) dM_rule_99 (by decide) ?_
              refine am_iload (i := 4) dM_rule_119 rfl ?_
              refine am_bipush (v := 10) dM_rule_121 (by decide) ?_
              refine am_icmp_lt_T (tgt := 142) dM_rule_123 (by decide) (by rw [c67]; decide) ?_
              refine am_aload_n (i := 0) dM_rule_142 rfl rfl ?_
              refine am_getf dM_rule_143 flM_35 (by first | rfl | exact sk8 (by omega) | exact sk9 (by omega) | exact sk10 (by omega) | exact sk11 (by omega)) rfl ?_
              refine am_iload_n (i := 1) dM_rule_146 rfl rfl ?_
              refine am_iald dM_rule_147 (by first | rfl | exact sk8 (by omega) | exact sk9 (by omega) | exact sk10 (by omega) | exact sk11 (by omega)) rfl (by first | omega | assumption | decide) (by decide) (by decide) (by first | exact congrArg am_I (upd_eq _ _ _) | rfl) ?_
              refine am_iload_n (i := 1) dM_rule_148 rfl rfl ?_
              refine am_icmp_eq_F (tgt := 154) dM_rule_149 (by decide) (q_arg_ne b4 n4 (by omega)) ?_
              refine am_iconst (v := 2) dM_rule_152 (by decide) ?_
              refine am_iret (st := []) rfl rfl dM_rule_153 ?_
              have co : ¬ q_only P v := by grind
              have en : q_neut P v = P v 4 := by unfold q_neut; grind
              have hr := ru2 co (by rw [en]; exact n4)
              exact k _ _ _ (by rw [hr]; rfl) (q_tab0 (Or.inr (Or.inl hr))).symm (by rw [q_dir2 hr, en, if_neg n4])
            · refine am_if_eq_T (tgt := 102) dM_rule_89 (by decide) (by decide) ?_
              refine am_aload_n (i := 0) dM_rule_102 rfl rfl ?_
              refine am_iload_n (i := 3) dM_rule_103 rfl rfl ?_
              refine am_iload (i := 5) dM_rule_104 rfl ?_
              refine am_callV (ac' := 0) (as' := 0) (xs := [_, _]) dM_rule_106 lkM_84 (by first | rfl | exact sk8 (by omega) | exact sk9 (by omega) | exact sk10 (by omega) | exact sk11 (by omega)) rfl rfl rfl rfl (Nat.le_of_ble_eq_true rfl) rfl rfl (cM_splat (by omega) e4 (fun cb => ?_) (fun cb => ?_))
              · refine am_if_eq_F (tgt := 119) dM_rule_109 (by decide) (by decide) ?_
                refine am_aload_n (i := 0) dM_rule_112 rfl rfl ?_
                refine am_getf dM_rule_113 flM_35 (by first | rfl | exact sk8 (by omega) | exact sk9 (by omega) | exact sk10 (by omega) | exact sk11 (by omega)) rfl ?_
                refine am_iload_n (i := 1) dM_rule_116 rfl rfl ?_
                refine am_iload_n (i := 2) dM_rule_117 rfl rfl ?_
                refine am_iast' dM_rule_118 (by first | rfl | exact sk8 (by omega) | exact sk9 (by omega) | exact sk10 (by omega) | exact sk11 (by omega)) rfl (by first | omega | assumption | decide) (by decide) (by decide) (by first | exact wm_kd (by omega) | exact wm_kh (by omega) | exact wm_fi (by omega) | exact wm_fh (by omega) | exact wm_se (by omega) | exact wm_sh (by omega) | exact wm_np (by omega) | exact wm_ph (by omega) | exact wm_nq (by omega) | exact wm_qh (by omega) | exact wm_ro | exact wm_co | exact wm_mm | exact wm_sd | exact wm_pa | exact wm_ce | exact wm_wd | exact wm_ud | exact wm_vn | exact wm_sm) ?_
                refine am_iload (i := 4) dM_rule_119 rfl ?_
                refine am_bipush (v := 10) dM_rule_121 (by decide) ?_
                refine am_icmp_lt_T (tgt := 142) dM_rule_123 (by decide) (by rw [c67]; decide) ?_
                refine am_aload_n (i := 0) dM_rule_142 rfl rfl ?_
                refine am_getf dM_rule_143 flM_35 (by first | rfl | exact sk8 (by omega) | exact sk9 (by omega) | exact sk10 (by omega) | exact sk11 (by omega)) rfl ?_
                refine am_iload_n (i := 1) dM_rule_146 rfl rfl ?_
                refine am_iald dM_rule_147 (by first | rfl | exact sk8 (by omega) | exact sk9 (by omega) | exact sk10 (by omega) | exact sk11 (by omega)) rfl (by first | omega | assumption | decide) (by decide) (by decide) (by first | exact congrArg am_I (upd_eq _ _ _) | rfl) ?_
                refine am_iload_n (i := 1) dM_rule_148 rfl rfl ?_
                refine am_icmp_eq_F (tgt := 154) dM_rule_149 (by decide) (q_arg_ne b3 n3 (by omega)) ?_
                refine am_iconst (v := 2) dM_rule_152 (by decide) ?_
                refine am_iret (st := []) rfl rfl dM_rule_153 ?_
                have co : ¬ q_only P v := by grind
                have en : q_neut P v = P v 3 := by unfold q_neut; grind
                have hr := ru2 co (by rw [en]; exact n3)
                exact k _ _ _ (by rw [hr]; rfl) (q_tab0 (Or.inr (Or.inl hr))).symm (by rw [q_dir2 hr, en, if_neg n3])
              · refine am_if_eq_T (tgt := 119) dM_rule_109 (by decide) (by decide) ?_
                refine am_iload (i := 4) dM_rule_119 rfl ?_
                refine am_bipush (v := 10) dM_rule_121 (by decide) ?_
                refine am_icmp_lt_T (tgt := 142) dM_rule_123 (by decide) (by rw [c67]; decide) ?_
                refine am_aload_n (i := 0) dM_rule_142 rfl rfl ?_
                refine am_getf dM_rule_143 flM_35 (by first | rfl | exact sk8 (by omega) | exact sk9 (by omega) | exact sk10 (by omega) | exact sk11 (by omega)) rfl ?_
                refine am_iload_n (i := 1) dM_rule_146 rfl rfl ?_
                refine am_iald dM_rule_147 (by first | rfl | exact sk8 (by omega) | exact sk9 (by omega) | exact sk10 (by omega) | exact sk11 (by omega)) rfl (by first | omega | assumption | decide) (by decide) (by decide) (by first | exact congrArg am_I (upd_eq _ _ _) | rfl) ?_
                refine am_iload_n (i := 1) dM_rule_148 rfl rfl ?_
                refine am_icmp_eq_T (tgt := 154) dM_rule_149 (by decide) hst ?_
                refine am_iload (i := 4) dM_rule_154 rfl ?_
                refine am_iconst (v := 4) dM_rule_156 (by decide) ?_
                refine am_icmp_ne_T (tgt := 186) dM_rule_157 (by decide) (by rw [c67]; decide) ?_
                refine am_iload (i := 4) dM_rule_186 rfl ?_
                refine am_iconst (v := 5) dM_rule_188 (by decide) ?_
                refine am_icmp_ne_T (tgt := 206) dM_rule_189 (by decide) (by rw [c67]; decide) ?_
                refine am_iload (i := 4) dM_rule_206 rfl ?_
                refine am_aload_n (i := 0) dM_rule_208 rfl rfl ?_
                refine am_getf dM_rule_209 flM_7 (by first | rfl | exact sk8 (by omega) | exact sk9 (by omega) | exact sk10 (by omega) | exact sk11 (by omega)) rfl ?_
                refine am_iload_n (i := 2) dM_rule_212 rfl rfl ?_
                refine am_iald dM_rule_213 (by first | rfl | exact sk8 (by omega) | exact sk9 (by omega) | exact sk10 (by omega) | exact sk11 (by omega)) e3 (by first | omega | assumption | decide) (by decide) (by decide) (by first | exact congrArg am_I (mkd_lo (by omega)) | exact congrArg am_I (mkd_hi (by omega)) | rfl) ?_
                refine am_icmp_ne (tgt := 238) dM_rule_214 (by decide) (fun c214 => ?_) (fun c214 => ?_)
                · refine am_iconst (v := 0) dM_rule_238 (by decide) ?_
                  refine am_iret (st := []) rfl rfl dM_rule_239 ?_
                  have co : ¬ q_only P v := by grind
                  have en : q_neut P v = -1 := by unfold q_neut; grind
                  have z3 : ¬ q_z3 P v := by grind
                  have z4 : ¬ q_z4 P v := by grind
                  have hr := ru0 co en z3 z4 (by unfold q_twi; grind)
                  exact k _ _ _ (by rw [hr]; rfl) (q_tab0 (Or.inl hr)).symm (by rw [q_dir0 (Or.inl hr), if_pos rfl])
                · refine am_iload (i := 4) dM_rule_217 rfl ?_
                  refine am_bipush (v := 6) dM_rule_219 (by decide) ?_
                  refine am_icmp_eq_F (tgt := 240) dM_rule_221 (by decide) (by rw [c67]; decide) ?_
                  refine am_iload (i := 4) dM_rule_224 rfl ?_
                  refine am_bipush (v := 7) dM_rule_226 (by decide) ?_
                  refine am_icmp_eq_F (tgt := 240) dM_rule_228 (by decide) (by rw [c67]; decide) ?_
                  refine am_iload (i := 4) dM_rule_231 rfl ?_
                  refine am_bipush (v := 11) dM_rule_233 (by decide) ?_
                  refine am_icmp_eq_F (tgt := 240) dM_rule_235 (by decide) (by rw [c67]; decide) ?_
                  refine am_iconst (v := 0) dM_rule_238 (by decide) ?_
                  refine am_iret (st := []) rfl rfl dM_rule_239 ?_
                  have co : ¬ q_only P v := by grind
                  have en : q_neut P v = -1 := by unfold q_neut; grind
                  have z3 : ¬ q_z3 P v := by grind
                  have z4 : ¬ q_z4 P v := by grind
                  have hr := ru0 co en z3 z4 (by unfold q_twi; grind)
                  exact k _ _ _ (by rw [hr]; rfl) (q_tab0 (Or.inl hr)).symm (by rw [q_dir0 (Or.inl hr), if_pos rfl])
          · refine am_iload (i := 4) dM_rule_70 rfl ?_
            refine am_iconst (v := 4) dM_rule_72 (by decide) ?_
            refine am_icmp_ne (tgt := 119) dM_rule_73 (by decide) (fun c73 => ?_) (fun c73 => ?_)
            · refine am_iload (i := 4) dM_rule_119 rfl ?_
              refine am_bipush (v := 10) dM_rule_121 (by decide) ?_
              refine am_icmp_lt (tgt := 142) dM_rule_123 (by decide) (fun c123 => ?_) (fun c123 => ?_)
              · refine am_aload_n (i := 0) dM_rule_142 rfl rfl ?_
                refine am_getf dM_rule_143 flM_35 (by first | rfl | exact sk8 (by omega) | exact sk9 (by omega) | exact sk10 (by omega) | exact sk11 (by omega)) rfl ?_
                refine am_iload_n (i := 1) dM_rule_146 rfl rfl ?_
                refine am_iald dM_rule_147 (by first | rfl | exact sk8 (by omega) | exact sk9 (by omega) | exact sk10 (by omega) | exact sk11 (by omega)) rfl (by first | omega | assumption | decide) (by decide) (by decide) (by first | exact congrArg am_I (upd_eq _ _ _) | rfl) ?_
                refine am_iload_n (i := 1) dM_rule_148 rfl rfl ?_
                refine am_icmp_eq_T (tgt := 154) dM_rule_149 (by decide) hst ?_
                refine am_iload (i := 4) dM_rule_154 rfl ?_
                refine am_iconst (v := 4) dM_rule_156 (by decide) ?_
                refine am_icmp_ne_T (tgt := 186) dM_rule_157 (by decide) c73 ?_
                refine am_iload (i := 4) dM_rule_186 rfl ?_
                refine am_iconst (v := 5) dM_rule_188 (by decide) ?_
                refine am_icmp_ne (tgt := 206) dM_rule_189 (by decide) (fun c189 => ?_) (fun c189 => ?_)
                · refine am_iload (i := 4) dM_rule_206 rfl ?_
                  refine am_aload_n (i := 0) dM_rule_208 rfl rfl ?_
                  refine am_getf dM_rule_209 flM_7 (by first | rfl | exact sk8 (by omega) | exact sk9 (by omega) | exact sk10 (by omega) | exact sk11 (by omega)) rfl ?_
                  refine am_iload_n (i := 2) dM_rule_212 rfl rfl ?_
                  refine am_iald dM_rule_213 (by first | rfl | exact sk8 (by omega) | exact sk9 (by omega) | exact sk10 (by omega) | exact sk11 (by omega)) e3 (by first | omega | assumption | decide) (by decide) (by decide) (by first | exact congrArg am_I (mkd_lo (by omega)) | exact congrArg am_I (mkd_hi (by omega)) | rfl) ?_
                  refine am_icmp_ne (tgt := 238) dM_rule_214 (by decide) (fun c214 => ?_) (fun c214 => ?_)
                  · refine am_iconst (v := 0) dM_rule_238 (by decide) ?_
                    refine am_iret (st := []) rfl rfl dM_rule_239 ?_
                    have co : ¬ q_only P v := by grind
                    have en : q_neut P v = -1 := by unfold q_neut; grind
                    have z3 : ¬ q_z3 P v := by grind
                    have z4 : ¬ q_z4 P v := by grind
                    have hr := ru0 co en z3 z4 (by unfold q_twi; grind)
                    exact k _ _ _ (by rw [hr]; rfl) (q_tab0 (Or.inl hr)).symm (by rw [q_dir0 (Or.inl hr), if_pos rfl])
                  · refine am_iload (i := 4) dM_rule_217 rfl ?_
                    refine am_bipush (v := 6) dM_rule_219 (by decide) ?_
                    refine am_icmp_eq (tgt := 240) dM_rule_221 (by decide) (fun c221 => ?_) (fun c221 => ?_)
                    · have ha := (hP (ix (P v 3)) (by omega)).1.1
                      refine am_aload_n (i := 0) dM_rule_240 rfl rfl ?_
                      refine am_getf dM_rule_241 flM_13 (by first | rfl | exact sk8 (by omega) | exact sk9 (by omega) | exact sk10 (by omega) | exact sk11 (by omega)) rfl ?_
                      refine am_iload_n (i := 2) dM_rule_244 rfl rfl ?_
                      refine am_iald dM_rule_245 (by first | rfl | exact sk8 (by omega) | exact sk9 (by omega) | exact sk10 (by omega) | exact sk11 (by omega)) e3 (by first | omega | assumption | decide) (by decide) (by decide) (by first | exact congrArg am_I (mkd_lo (by omega)) | exact congrArg am_I (mkd_hi (by omega)) | rfl) ?_
                      refine am_istore (i := 5) dM_rule_246 (by decide) ?_
                      refine am_iload (i := 4) dM_rule_248 rfl ?_
                      refine am_bipush (v := 11) dM_rule_250 (by decide) ?_
                      refine am_icmp_ne_T (tgt := 265) dM_rule_252 (by decide) (by rw [c221]; decide) ?_
                      refine am_aload_n (i := 0) dM_rule_265 rfl rfl ?_
                      refine am_getf dM_rule_266 flM_35 (by first | rfl | exact sk8 (by omega) | exact sk9 (by omega) | exact sk10 (by omega) | exact sk11 (by omega)) rfl ?_
                      refine am_iload_n (i := 1) dM_rule_269 rfl rfl ?_
                      refine am_iload (i := 5) dM_rule_270 rfl ?_
                      refine am_iast' dM_rule_272 (by first | rfl | exact sk8 (by omega) | exact sk9 (by omega) | exact sk10 (by omega) | exact sk11 (by omega)) rfl (by first | omega | assumption | decide) (by decide) (by decide) (by first | exact wm_kd (by omega) | exact wm_kh (by omega) | exact wm_fi (by omega) | exact wm_fh (by omega) | exact wm_se (by omega) | exact wm_sh (by omega) | exact wm_np (by omega) | exact wm_ph (by omega) | exact wm_nq (by omega) | exact wm_qh (by omega) | exact wm_ro | exact wm_co | exact wm_mm | exact wm_sd | exact wm_pa | exact wm_ce | exact wm_wd | exact wm_ud | exact wm_vn | exact wm_sm) ?_
                      refine am_goto (tgt := 284) dM_rule_273 (by decide) ?_
                      refine am_iconst (v := 5) dM_rule_284 (by decide) ?_
                      refine am_iret (st := []) rfl rfl dM_rule_285 ?_
                      have co : ¬ q_only P v := by grind
                      have en : q_neut P v = -1 := by unfold q_neut; grind
                      have z3 : ¬ q_z3 P v := by grind
                      have z4 : ¬ q_z4 P v := by grind
                      have tw : q_twi P v = P (ix (P v 3)) 3 := by unfold q_twi; rw [if_pos (by grind), if_pos c214.symm]
                      have ni : ¬ P (ix (P v 3)) 3 = -1 := (hP (ix (P v 3)) (by omega)).1.2.2.1 (by rw [← c214]; exact k2_of _ c221 (by decide))
                      have hne : ¬ q_twi P v = -1 := by rw [tw]; exact ni
                      obtain ⟨t6, -⟩ := q_twi_11 hP hv hn hne
                      have hr := ru5 co en z3 z4 hne
                      have hs : q_shp P v (ix (q_twi P v)) := t6 (by grind)
                      exact k _ _ _ (by rw [hr]; rfl) (by unfold q_tab; rw [if_neg (by omega), if_neg (by omega), if_neg (fun q => q.2 hs)]) (by rw [q_dir5 hr hs, tw, if_neg ni])
                    · refine am_iload (i := 4) dM_rule_224 rfl ?_
                      refine am_bipush (v := 7) dM_rule_226 (by decide) ?_
                      refine am_icmp_eq (tgt := 240) dM_rule_228 (by decide) (fun c228 => ?_) (fun c228 => ?_)
                      · have ha := (hP (ix (P v 3)) (by omega)).1.1
                        refine am_aload_n (i := 0) dM_rule_240 rfl rfl ?_
                        refine am_getf dM_rule_241 flM_13 (by first | rfl | exact sk8 (by omega) | exact sk9 (by omega) | exact sk10 (by omega) | exact sk11 (by omega)) rfl ?_
                        refine am_iload_n (i := 2) dM_rule_244 rfl rfl ?_
                        refine am_iald dM_rule_245 (by first | rfl | exact sk8 (by omega) | exact sk9 (by omega) | exact sk10 (by omega) | exact sk11 (by omega)) e3 (by first | omega | assumption | decide) (by decide) (by decide) (by first | exact congrArg am_I (mkd_lo (by omega)) | exact congrArg am_I (mkd_hi (by omega)) | rfl) ?_
                        refine am_istore (i := 5) dM_rule_246 (by decide) ?_
                        refine am_iload (i := 4) dM_rule_248 rfl ?_
                        refine am_bipush (v := 11) dM_rule_250 (by decide) ?_
                        refine am_icmp_ne_T (tgt := 265) dM_rule_252 (by decide) (by rw [c228]; decide) ?_
                        refine am_aload_n (i := 0) dM_rule_265 rfl rfl ?_
                        refine am_getf dM_rule_266 flM_35 (by first | rfl | exact sk8 (by omega) | exact sk9 (by omega) | exact sk10 (by omega) | exact sk11 (by omega)) rfl ?_
                        refine am_iload_n (i := 1) dM_rule_269 rfl rfl ?_
                        refine am_iload (i := 5) dM_rule_270 rfl ?_
                        refine am_iast' dM_rule_272 (by first | rfl | exact sk8 (by omega) | exact sk9 (by omega) | exact sk10 (by omega) | exact sk11 (by omega)) rfl (by first | omega | assumption | decide) (by decide) (by decide) (by first | exact wm_kd (by omega) | exact wm_kh (by omega) | exact wm_fi (by omega) | exact wm_fh (by omega) | exact wm_se (by omega) | exact wm_sh (by omega) | exact wm_np (by omega) | exact wm_ph (by omega) | exact wm_nq (by omega) | exact wm_qh (by omega) | exact wm_ro | exact wm_co | exact wm_mm | exact wm_sd | exact wm_pa | exact wm_ce | exact wm_wd | exact wm_ud | exact wm_vn | exact wm_sm) ?_
                        refine am_goto (tgt := 284) dM_rule_273 (by decide) ?_
                        refine am_iconst (v := 5) dM_rule_284 (by decide) ?_
                        refine am_iret (st := []) rfl rfl dM_rule_285 ?_
                        have co : ¬ q_only P v := by grind
                        have en : q_neut P v = -1 := by unfold q_neut; grind
                        have z3 : ¬ q_z3 P v := by grind
                        have z4 : ¬ q_z4 P v := by grind
                        have tw : q_twi P v = P (ix (P v 3)) 3 := by unfold q_twi; rw [if_pos (by grind), if_pos c214.symm]
                        have ni : ¬ P (ix (P v 3)) 3 = -1 := (hP (ix (P v 3)) (by omega)).1.2.2.1 (by rw [← c214]; exact k2_of _ c228 (by decide))
                        have hne : ¬ q_twi P v = -1 := by rw [tw]; exact ni
                        obtain ⟨t6, -⟩ := q_twi_11 hP hv hn hne
                        have hr := ru5 co en z3 z4 hne
                        have hs : q_shp P v (ix (q_twi P v)) := t6 (by grind)
                        exact k _ _ _ (by rw [hr]; rfl) (by unfold q_tab; rw [if_neg (by omega), if_neg (by omega), if_neg (fun q => q.2 hs)]) (by rw [q_dir5 hr hs, tw, if_neg ni])
                      · refine am_iload (i := 4) dM_rule_231 rfl ?_
                        refine am_bipush (v := 11) dM_rule_233 (by decide) ?_
                        refine am_icmp_eq (tgt := 240) dM_rule_235 (by decide) (fun c235 => ?_) (fun c235 => ?_)
                        · have ha := (hP (ix (P v 3)) (by omega)).1.1
                          refine am_aload_n (i := 0) dM_rule_240 rfl rfl ?_
                          refine am_getf dM_rule_241 flM_13 (by first | rfl | exact sk8 (by omega) | exact sk9 (by omega) | exact sk10 (by omega) | exact sk11 (by omega)) rfl ?_
                          refine am_iload_n (i := 2) dM_rule_244 rfl rfl ?_
                          refine am_iald dM_rule_245 (by first | rfl | exact sk8 (by omega) | exact sk9 (by omega) | exact sk10 (by omega) | exact sk11 (by omega)) e3 (by first | omega | assumption | decide) (by decide) (by decide) (by first | exact congrArg am_I (mkd_lo (by omega)) | exact congrArg am_I (mkd_hi (by omega)) | rfl) ?_
                          refine am_istore (i := 5) dM_rule_246 (by decide) ?_
                          refine am_iload (i := 4) dM_rule_248 rfl ?_
                          refine am_bipush (v := 11) dM_rule_250 (by decide) ?_
                          refine am_icmp_ne_F (tgt := 265) dM_rule_252 (by decide) c235 ?_
                          have ni : ¬ P (ix (P v 3)) 3 = -1 := (hP (ix (P v 3)) (by omega)).1.2.2.1 (by rw [← c214]; exact k2_of 11 (by grind) (by decide))
                          obtain ⟨gi, ei⟩ := ha.ix ni (by omega)
                          refine am_aload_n (i := 0) dM_rule_255 rfl rfl ?_
                          refine am_iload_n (i := 1) dM_rule_256 rfl rfl ?_
                          refine am_iload (i := 5) dM_rule_257 rfl ?_
                          refine am_callV (ac' := 0) (as' := 0) (xs := [_, _]) dM_rule_259 lkM_88 (by first | rfl | exact sk8 (by omega) | exact sk9 (by omega) | exact sk10 (by omega) | exact sk11 (by omega)) rfl rfl rfl rfl (Nat.le_of_ble_eq_true rfl) rfl rfl (cM_sameShape (v := v) (u := ix (P (ix (P v 3)) 3)) (by omega) (by omega) rfl ei (fun ch => ?_) (fun ch => ?_))
                          · refine am_if_eq_F (tgt := 276) dM_rule_262 (by decide) (by decide) ?_
                            refine am_aload_n (i := 0) dM_rule_265 rfl rfl ?_
                            refine am_getf dM_rule_266 flM_35 (by first | rfl | exact sk8 (by omega) | exact sk9 (by omega) | exact sk10 (by omega) | exact sk11 (by omega)) rfl ?_
                            refine am_iload_n (i := 1) dM_rule_269 rfl rfl ?_
                            refine am_iload (i := 5) dM_rule_270 rfl ?_
                            refine am_iast' dM_rule_272 (by first | rfl | exact sk8 (by omega) | exact sk9 (by omega) | exact sk10 (by omega) | exact sk11 (by omega)) rfl (by first | omega | assumption | decide) (by decide) (by decide) (by first | exact wm_kd (by omega) | exact wm_kh (by omega) | exact wm_fi (by omega) | exact wm_fh (by omega) | exact wm_se (by omega) | exact wm_sh (by omega) | exact wm_np (by omega) | exact wm_ph (by omega) | exact wm_nq (by omega) | exact wm_qh (by omega) | exact wm_ro | exact wm_co | exact wm_mm | exact wm_sd | exact wm_pa | exact wm_ce | exact wm_wd | exact wm_ud | exact wm_vn | exact wm_sm) ?_
                            refine am_goto (tgt := 284) dM_rule_273 (by decide) ?_
                            refine am_iconst (v := 5) dM_rule_284 (by decide) ?_
                            refine am_iret (st := []) rfl rfl dM_rule_285 ?_
                            have co : ¬ q_only P v := by grind
                            have en : q_neut P v = -1 := by unfold q_neut; grind
                            have z3 : ¬ q_z3 P v := by grind
                            have z4 : ¬ q_z4 P v := by grind
                            have tw : q_twi P v = P (ix (P v 3)) 3 := by unfold q_twi; rw [if_pos (by grind), if_pos c214.symm]
                            have ni : ¬ P (ix (P v 3)) 3 = -1 := (hP (ix (P v 3)) (by omega)).1.2.2.1 (by rw [← c214]; exact k2_of _ c235 (by decide))
                            have hne : ¬ q_twi P v = -1 := by rw [tw]; exact ni
                            obtain ⟨t6, -⟩ := q_twi_11 hP hv hn hne
                            have hr := ru5 co en z3 z4 hne
                            have hs : q_shp P v (ix (q_twi P v)) := by rw [tw]; exact ch
                            exact k _ _ _ (by rw [hr]; rfl) (by unfold q_tab; rw [if_neg (by omega), if_neg (by omega), if_neg (fun q => q.2 hs)]) (by rw [q_dir5 hr hs, tw, if_neg ni])
                          · refine am_if_eq_T (tgt := 276) dM_rule_262 (by decide) (by decide) ?_
                            refine am_aload_n (i := 0) dM_rule_276 rfl rfl ?_
                            refine am_getf dM_rule_277 flM_13 (by first | rfl | exact sk8 (by omega) | exact sk9 (by omega) | exact sk10 (by omega) | exact sk11 (by omega)) rfl ?_
                            refine am_iload_n (i := 1) dM_rule_280 rfl rfl ?_
                            refine am_iload (i := 5) dM_rule_281 rfl ?_
                            refine am_iast' dM_rule_283 (by first | rfl | exact sk8 (by omega) | exact sk9 (by omega) | exact sk10 (by omega) | exact sk11 (by omega)) rfl (by first | omega | assumption | decide) (by decide) (by decide) (by first | exact wm_kd (by omega) | exact wm_kh (by omega) | exact wm_fi (by omega) | exact wm_fh (by omega) | exact wm_se (by omega) | exact wm_sh (by omega) | exact wm_np (by omega) | exact wm_ph (by omega) | exact wm_nq (by omega) | exact wm_qh (by omega) | exact wm_ro | exact wm_co | exact wm_mm | exact wm_sd | exact wm_pa | exact wm_ce | exact wm_wd | exact wm_ud | exact wm_vn | exact wm_sm) ?_
                            refine am_iconst (v := 5) dM_rule_284 (by decide) ?_
                            refine am_iret (st := []) rfl rfl dM_rule_285 ?_
                            have co : ¬ q_only P v := by grind
                            have en : q_neut P v = -1 := by unfold q_neut; grind
                            have z3 : ¬ q_z3 P v := by grind
                            have z4 : ¬ q_z4 P v := by grind
                            have tw : q_twi P v = P (ix (P v 3)) 3 := by unfold q_twi; rw [if_pos (by grind), if_pos c214.symm]
                            have ni : ¬ P (ix (P v 3)) 3 = -1 := (hP (ix (P v 3)) (by omega)).1.2.2.1 (by rw [← c214]; exact k2_of _ c235 (by decide))
                            have hne : ¬ q_twi P v = -1 := by rw [tw]; exact ni
                            obtain ⟨t6, -⟩ := q_twi_11 hP hv hn hne
                            have hr := ru5 co en z3 z4 hne
                            have hs : ¬ q_shp P v (ix (q_twi P v)) := by rw [tw]; exact ch
                            exact k _ _ _ (by rw [hr]; rfl) (by unfold q_tab; rw [if_neg (by omega), if_neg (by omega), if_pos ⟨hr, hs⟩, tw]) (by rw [q_dir5n hr hs, if_pos rfl])
                        · refine am_iconst (v := 0) dM_rule_238 (by decide) ?_
                          refine am_iret (st := []) rfl rfl dM_rule_239 ?_
                          have co : ¬ q_only P v := by grind
                          have en : q_neut P v = -1 := by unfold q_neut; grind
                          have z3 : ¬ q_z3 P v := by grind
                          have z4 : ¬ q_z4 P v := by grind
                          have hr := ru0 co en z3 z4 (by unfold q_twi; grind)
                          exact k _ _ _ (by rw [hr]; rfl) (q_tab0 (Or.inl hr)).symm (by rw [q_dir0 (Or.inl hr), if_pos rfl])
                · refine am_iload_n (i := 2) dM_rule_192 rfl rfl ?_
                  refine am_iload_n (i := 3) dM_rule_193 rfl rfl ?_
                  refine am_icmp_ne (tgt := 206) dM_rule_194 (by decide) (fun c194 => ?_) (fun c194 => ?_)
                  · refine am_iload (i := 4) dM_rule_206 rfl ?_
                    refine am_aload_n (i := 0) dM_rule_208 rfl rfl ?_
                    refine am_getf dM_rule_209 flM_7 (by first | rfl | exact sk8 (by omega) | exact sk9 (by omega) | exact sk10 (by omega) | exact sk11 (by omega)) rfl ?_
                    refine am_iload_n (i := 2) dM_rule_212 rfl rfl ?_
                    refine am_iald dM_rule_213 (by first | rfl | exact sk8 (by omega) | exact sk9 (by omega) | exact sk10 (by omega) | exact sk11 (by omega)) e3 (by first | omega | assumption | decide) (by decide) (by decide) (by first | exact congrArg am_I (mkd_lo (by omega)) | exact congrArg am_I (mkd_hi (by omega)) | rfl) ?_
                    refine am_icmp_ne (tgt := 238) dM_rule_214 (by decide) (fun c214 => ?_) (fun c214 => ?_)
                    · refine am_iconst (v := 0) dM_rule_238 (by decide) ?_
                      refine am_iret (st := []) rfl rfl dM_rule_239 ?_
                      have co : ¬ q_only P v := by grind
                      have en : q_neut P v = -1 := by unfold q_neut; grind
                      have z3 : ¬ q_z3 P v := by grind
                      have z4 : ¬ q_z4 P v := by grind
                      have hr := ru0 co en z3 z4 (by unfold q_twi; grind)
                      exact k _ _ _ (by rw [hr]; rfl) (q_tab0 (Or.inl hr)).symm (by rw [q_dir0 (Or.inl hr), if_pos rfl])
                    · refine am_iload (i := 4) dM_rule_217 rfl ?_
                      refine am_bipush (v := 6) dM_rule_219 (by decide) ?_
                      refine am_icmp_eq (tgt := 240) dM_rule_221 (by decide) (fun c221 => ?_) (fun c221 => ?_)
                      · have ha := (hP (ix (P v 3)) (by omega)).1.1
                        refine am_aload_n (i := 0) dM_rule_240 rfl rfl ?_
                        refine am_getf dM_rule_241 flM_13 (by first | rfl | exact sk8 (by omega) | exact sk9 (by omega) | exact sk10 (by omega) | exact sk11 (by omega)) rfl ?_
                        refine am_iload_n (i := 2) dM_rule_244 rfl rfl ?_
                        refine am_iald dM_rule_245 (by first | rfl | exact sk8 (by omega) | exact sk9 (by omega) | exact sk10 (by omega) | exact sk11 (by omega)) e3 (by first | omega | assumption | decide) (by decide) (by decide) (by first | exact congrArg am_I (mkd_lo (by omega)) | exact congrArg am_I (mkd_hi (by omega)) | rfl) ?_
                        refine am_istore (i := 5) dM_rule_246 (by decide) ?_
                        refine am_iload (i := 4) dM_rule_248 rfl ?_
                        refine am_bipush (v := 11) dM_rule_250 (by decide) ?_
                        refine am_icmp_ne_T (tgt := 265) dM_rule_252 (by decide) (by rw [c221]; decide) ?_
                        refine am_aload_n (i := 0) dM_rule_265 rfl rfl ?_
                        refine am_getf dM_rule_266 flM_35 (by first | rfl | exact sk8 (by omega) | exact sk9 (by omega) | exact sk10 (by omega) | exact sk11 (by omega)) rfl ?_
                        refine am_iload_n (i := 1) dM_rule_269 rfl rfl ?_
                        refine am_iload (i := 5) dM_rule_270 rfl ?_
                        refine am_iast' dM_rule_272 (by first | rfl | exact sk8 (by omega) | exact sk9 (by omega) | exact sk10 (by omega) | exact sk11 (by omega)) rfl (by first | omega | assumption | decide) (by decide) (by decide) (by first | exact wm_kd (by omega) | exact wm_kh (by omega) | exact wm_fi (by omega) | exact wm_fh (by omega) | exact wm_se (by omega) | exact wm_sh (by omega) | exact wm_np (by omega) | exact wm_ph (by omega) | exact wm_nq (by omega) | exact wm_qh (by omega) | exact wm_ro | exact wm_co | exact wm_mm | exact wm_sd | exact wm_pa | exact wm_ce | exact wm_wd | exact wm_ud | exact wm_vn | exact wm_sm) ?_
                        refine am_goto (tgt := 284) dM_rule_273 (by decide) ?_
                        refine am_iconst (v := 5) dM_rule_284 (by decide) ?_
                        refine am_iret (st := []) rfl rfl dM_rule_285 ?_
                        have co : ¬ q_only P v := by grind
                        have en : q_neut P v = -1 := by unfold q_neut; grind
                        have z3 : ¬ q_z3 P v := by grind
                        have z4 : ¬ q_z4 P v := by grind
                        have tw : q_twi P v = P (ix (P v 3)) 3 := by unfold q_twi; rw [if_pos (by grind), if_pos c214.symm]
                        have ni : ¬ P (ix (P v 3)) 3 = -1 := (hP (ix (P v 3)) (by omega)).1.2.2.1 (by rw [← c214]; exact k2_of _ c221 (by decide))
                        have hne : ¬ q_twi P v = -1 := by rw [tw]; exact ni
                        obtain ⟨t6, -⟩ := q_twi_11 hP hv hn hne
                        have hr := ru5 co en z3 z4 hne
                        have hs : q_shp P v (ix (q_twi P v)) := t6 (by grind)
                        exact k _ _ _ (by rw [hr]; rfl) (by unfold q_tab; rw [if_neg (by omega), if_neg (by omega), if_neg (fun q => q.2 hs)]) (by rw [q_dir5 hr hs, tw, if_neg ni])
                      · refine am_iload (i := 4) dM_rule_224 rfl ?_
                        refine am_bipush (v := 7) dM_rule_226 (by decide) ?_
                        refine am_icmp_eq (tgt := 240) dM_rule_228 (by decide) (fun c228 => ?_) (fun c228 => ?_)
                        · have ha := (hP (ix (P v 3)) (by omega)).1.1
                          refine am_aload_n (i := 0) dM_rule_240 rfl rfl ?_
                          refine am_getf dM_rule_241 flM_13 (by first | rfl | exact sk8 (by omega) | exact sk9 (by omega) | exact sk10 (by omega) | exact sk11 (by omega)) rfl ?_
                          refine am_iload_n (i := 2) dM_rule_244 rfl rfl ?_
                          refine am_iald dM_rule_245 (by first | rfl | exact sk8 (by omega) | exact sk9 (by omega) | exact sk10 (by omega) | exact sk11 (by omega)) e3 (by first | omega | assumption | decide) (by decide) (by decide) (by first | exact congrArg am_I (mkd_lo (by omega)) | exact congrArg am_I (mkd_hi (by omega)) | rfl) ?_
                          refine am_istore (i := 5) dM_rule_246 (by decide) ?_
                          refine am_iload (i := 4) dM_rule_248 rfl ?_
                          refine am_bipush (v := 11) dM_rule_250 (by decide) ?_
                          refine am_icmp_ne_T (tgt := 265) dM_rule_252 (by decide) (by rw [c228]; decide) ?_
                          refine am_aload_n (i := 0) dM_rule_265 rfl rfl ?_
                          refine am_getf dM_rule_266 flM_35 (by first | rfl | exact sk8 (by omega) | exact sk9 (by omega) | exact sk10 (by omega) | exact sk11 (by omega)) rfl ?_
                          refine am_iload_n (i := 1) dM_rule_269 rfl rfl ?_
                          refine am_iload (i := 5) dM_rule_270 rfl ?_
                          refine am_iast' dM_rule_272 (by first | rfl | exact sk8 (by omega) | exact sk9 (by omega) | exact sk10 (by omega) | exact sk11 (by omega)) rfl (by first | omega | assumption | decide) (by decide) (by decide) (by first | exact wm_kd (by omega) | exact wm_kh (by omega) | exact wm_fi (by omega) | exact wm_fh (by omega) | exact wm_se (by omega) | exact wm_sh (by omega) | exact wm_np (by omega) | exact wm_ph (by omega) | exact wm_nq (by omega) | exact wm_qh (by omega) | exact wm_ro | exact wm_co | exact wm_mm | exact wm_sd | exact wm_pa | exact wm_ce | exact wm_wd | exact wm_ud | exact wm_vn | exact wm_sm) ?_
                          refine am_goto (tgt := 284) dM_rule_273 (by decide) ?_
                          refine am_iconst (v := 5) dM_rule_284 (by decide) ?_
                          refine am_iret (st := []) rfl rfl dM_rule_285 ?_
                          have co : ¬ q_only P v := by grind
                          have en : q_neut P v = -1 := by unfold q_neut; grind
                          have z3 : ¬ q_z3 P v := by grind
                          have z4 : ¬ q_z4 P v := by grind
                          have tw : q_twi P v = P (ix (P v 3)) 3 := by unfold q_twi; rw [if_pos (by grind), if_pos c214.symm]
                          have ni : ¬ P (ix (P v 3)) 3 = -1 := (hP (ix (P v 3)) (by omega)).1.2.2.1 (by rw [← c214]; exact k2_of _ c228 (by decide))
                          have hne : ¬ q_twi P v = -1 := by rw [tw]; exact ni
                          obtain ⟨t6, -⟩ := q_twi_11 hP hv hn hne
                          have hr := ru5 co en z3 z4 hne
                          have hs : q_shp P v (ix (q_twi P v)) := t6 (by grind)
                          exact k _ _ _ (by rw [hr]; rfl) (by unfold q_tab; rw [if_neg (by omega), if_neg (by omega), if_neg (fun q => q.2 hs)]) (by rw [q_dir5 hr hs, tw, if_neg ni])
                        · refine am_iload (i := 4) dM_rule_231 rfl ?_
                          refine am_bipush (v := 11) dM_rule_233 (by decide) ?_
                          refine am_icmp_eq (tgt := 240) dM_rule_235 (by decide) (fun c235 => ?_) (fun c235 => ?_)
                          · have ha := (hP (ix (P v 3)) (by omega)).1.1
                            refine am_aload_n (i := 0) dM_rule_240 rfl rfl ?_
                            refine am_getf dM_rule_241 flM_13 (by first | rfl | exact sk8 (by omega) | exact sk9 (by omega) | exact sk10 (by omega) | exact sk11 (by omega)) rfl ?_
                            refine am_iload_n (i := 2) dM_rule_244 rfl rfl ?_
                            refine am_iald dM_rule_245 (by first | rfl | exact sk8 (by omega) | exact sk9 (by omega) | exact sk10 (by omega) | exact sk11 (by omega)) e3 (by first | omega | assumption | decide) (by decide) (by decide) (by first | exact congrArg am_I (mkd_lo (by omega)) | exact congrArg am_I (mkd_hi (by omega)) | rfl) ?_
                            refine am_istore (i := 5) dM_rule_246 (by decide) ?_
                            refine am_iload (i := 4) dM_rule_248 rfl ?_
                            refine am_bipush (v := 11) dM_rule_250 (by decide) ?_
                            refine am_icmp_ne_F (tgt := 265) dM_rule_252 (by decide) c235 ?_
                            have ni : ¬ P (ix (P v 3)) 3 = -1 := (hP (ix (P v 3)) (by omega)).1.2.2.1 (by rw [← c214]; exact k2_of 11 (by grind) (by decide))
                            obtain ⟨gi, ei⟩ := ha.ix ni (by omega)
                            refine am_aload_n (i := 0) dM_rule_255 rfl rfl ?_
                            refine am_iload_n (i := 1) dM_rule_256 rfl rfl ?_
                            refine am_iload (i := 5) dM_rule_257 rfl ?_
                            refine am_callV (ac' := 0) (as' := 0) (xs := [_, _]) dM_rule_259 lkM_88 (by first | rfl | exact sk8 (by omega) | exact sk9 (by omega) | exact sk10 (by omega) | exact sk11 (by omega)) rfl rfl rfl rfl (Nat.le_of_ble_eq_true rfl) rfl rfl (cM_sameShape (v := v) (u := ix (P (ix (P v 3)) 3)) (by omega) (by omega) rfl ei (fun ch => ?_) (fun ch => ?_))
                            · refine am_if_eq_F (tgt := 276) dM_rule_262 (by decide) (by decide) ?_
                              refine am_aload_n (i := 0) dM_rule_265 rfl rfl ?_
                              refine am_getf dM_rule_266 flM_35 (by first | rfl | exact sk8 (by omega) | exact sk9 (by omega) | exact sk10 (by omega) | exact sk11 (by omega)) rfl ?_
                              refine am_iload_n (i := 1) dM_rule_269 rfl rfl ?_
                              refine am_iload (i := 5) dM_rule_270 rfl ?_
                              refine am_iast' dM_rule_272 (by first | rfl | exact sk8 (by omega) | exact sk9 (by omega) | exact sk10 (by omega) | exact sk11 (by omega)) rfl (by first | omega | assumption | decide) (by decide) (by decide) (by first | exact wm_kd (by omega) | exact wm_kh (by omega) | exact wm_fi (by omega) | exact wm_fh (by omega) | exact wm_se (by omega) | exact wm_sh (by omega) | exact wm_np (by omega) | exact wm_ph (by omega) | exact wm_nq (by omega) | exact wm_qh (by omega) | exact wm_ro | exact wm_co | exact wm_mm | exact wm_sd | exact wm_pa | exact wm_ce | exact wm_wd | exact wm_ud | exact wm_vn | exact wm_sm) ?_
                              refine am_goto (tgt := 284) dM_rule_273 (by decide) ?_
                              refine am_iconst (v := 5) dM_rule_284 (by decide) ?_
                              refine am_iret (st := []) rfl rfl dM_rule_285 ?_
                              have co : ¬ q_only P v := by grind
                              have en : q_neut P v = -1 := by unfold q_neut; grind
                              have z3 : ¬ q_z3 P v := by grind
                              have z4 : ¬ q_z4 P v := by grind
                              have tw : q_twi P v = P (ix (P v 3)) 3 := by unfold q_twi; rw [if_pos (by grind), if_pos c214.symm]
                              have ni : ¬ P (ix (P v 3)) 3 = -1 := (hP (ix (P v 3)) (by omega)).1.2.2.1 (by rw [← c214]; exact k2_of _ c235 (by decide))
                              have hne : ¬ q_twi P v = -1 := by rw [tw]; exact ni
                              obtain ⟨t6, -⟩ := q_twi_11 hP hv hn hne
                              have hr := ru5 co en z3 z4 hne
                              have hs : q_shp P v (ix (q_twi P v)) := by rw [tw]; exact ch
                              exact k _ _ _ (by rw [hr]; rfl) (by unfold q_tab; rw [if_neg (by omega), if_neg (by omega), if_neg (fun q => q.2 hs)]) (by rw [q_dir5 hr hs, tw, if_neg ni])
                            · refine am_if_eq_T (tgt := 276) dM_rule_262 (by decide) (by decide) ?_
                              refine am_aload_n (i := 0) dM_rule_276 rfl rfl ?_
                              refine am_getf dM_rule_277 flM_13 (by first | rfl | exact sk8 (by omega) | exact sk9 (by omega) | exact sk10 (by omega) | exact sk11 (by omega)) rfl ?_
                              refine am_iload_n (i := 1) dM_rule_280 rfl rfl ?_
                              refine am_iload (i := 5) dM_rule_281 rfl ?_
                              refine am_iast' dM_rule_283 (by first | rfl | exact sk8 (by omega) | exact sk9 (by omega) | exact sk10 (by omega) | exact sk11 (by omega)) rfl (by first | omega | assumption | decide) (by decide) (by decide) (by first | exact wm_kd (by omega) | exact wm_kh (by omega) | exact wm_fi (by omega) | exact wm_fh (by omega) | exact wm_se (by omega) | exact wm_sh (by omega) | exact wm_np (by omega) | exact wm_ph (by omega) | exact wm_nq (by omega) | exact wm_qh (by omega) | exact wm_ro | exact wm_co | exact wm_mm | exact wm_sd | exact wm_pa | exact wm_ce | exact wm_wd | exact wm_ud | exact wm_vn | exact wm_sm) ?_
                              refine am_iconst (v := 5) dM_rule_284 (by decide) ?_
                              refine am_iret (st := []) rfl rfl dM_rule_285 ?_
                              have co : ¬ q_only P v := by grind
                              have en : q_neut P v = -1 := by unfold q_neut; grind
                              have z3 : ¬ q_z3 P v := by grind
                              have z4 : ¬ q_z4 P v := by grind
                              have tw : q_twi P v = P (ix (P v 3)) 3 := by unfold q_twi; rw [if_pos (by grind), if_pos c214.symm]
                              have ni : ¬ P (ix (P v 3)) 3 = -1 := (hP (ix (P v 3)) (by omega)).1.2.2.1 (by rw [← c214]; exact k2_of _ c235 (by decide))
                              have hne : ¬ q_twi P v = -1 := by rw [tw]; exact ni
                              obtain ⟨t6, -⟩ := q_twi_11 hP hv hn hne
                              have hr := ru5 co en z3 z4 hne
                              have hs : ¬ q_shp P v (ix (q_twi P v)) := by rw [tw]; exact ch
                              exact k _ _ _ (by rw [hr]; rfl) (by unfold q_tab; rw [if_neg (by omega), if_neg (by omega), if_pos ⟨hr, hs⟩, tw]) (by rw [q_dir5n hr hs, if_pos rfl])
                          · refine am_iconst (v := 0) dM_rule_238 (by decide) ?_
                            refine am_iret (st := []) rfl rfl dM_rule_239 ?_
                            have co : ¬ q_only P v := by grind
                            have en : q_neut P v = -1 := by unfold q_neut; grind
                            have z3 : ¬ q_z3 P v := by grind
                            have z4 : ¬ q_z4 P v := by grind
                            have hr := ru0 co en z3 z4 (by unfold q_twi; grind)
                            exact k _ _ _ (by rw [hr]; rfl) (q_tab0 (Or.inl hr)).symm (by rw [q_dir0 (Or.inl hr), if_pos rfl])
                  · refine am_aload_n (i := 0) dM_rule_197 rfl rfl ?_
                    refine am_getf dM_rule_198 flM_35 (by first | rfl | exact sk8 (by omega) | exact sk9 (by omega) | exact sk10 (by omega) | exact sk11 (by omega)) rfl ?_
                    refine am_iload_n (i := 1) dM_rule_201 rfl rfl ?_
                    refine am_iload_n (i := 2) dM_rule_202 rfl rfl ?_
                    refine am_iast' dM_rule_203 (by first | rfl | exact sk8 (by omega) | exact sk9 (by omega) | exact sk10 (by omega) | exact sk11 (by omega)) rfl (by first | omega | assumption | decide) (by decide) (by decide) (by first | exact wm_kd (by omega) | exact wm_kh (by omega) | exact wm_fi (by omega) | exact wm_fh (by omega) | exact wm_se (by omega) | exact wm_sh (by omega) | exact wm_np (by omega) | exact wm_ph (by omega) | exact wm_nq (by omega) | exact wm_qh (by omega) | exact wm_ro | exact wm_co | exact wm_mm | exact wm_sd | exact wm_pa | exact wm_ce | exact wm_wd | exact wm_ud | exact wm_vn | exact wm_sm) ?_
                    refine am_iconst (v := 4) dM_rule_204 (by decide) ?_
                    refine am_iret (st := []) rfl rfl dM_rule_205 ?_
                    have co : ¬ q_only P v := by grind
                    have en : q_neut P v = -1 := by unfold q_neut; grind
                    have z3 : ¬ q_z3 P v := by grind
                    have hr := ru4 co en z3 (by grind)
                    exact k _ _ _ (by rw [hr]; rfl) (q_tab0 (Or.inr (Or.inr hr))).symm (by rw [q_dir4 hr, if_neg n3])
              · refine am_aload_n (i := 0) dM_rule_126 rfl rfl ?_
                refine am_iload_n (i := 1) dM_rule_127 rfl rfl ?_
                refine am_iload_n (i := 2) dM_rule_128 rfl rfl ?_
                refine am_callV (ac' := 0) (as' := 0) (xs := [_, _]) dM_rule_129 lkM_88 (by first | rfl | exact sk8 (by omega) | exact sk9 (by omega) | exact sk10 (by omega) | exact sk11 (by omega)) rfl rfl rfl rfl (Nat.le_of_ble_eq_true rfl) rfl rfl (cM_sameShape (v := v) (u := ix (P v 3)) (by omega) (by omega) rfl e3 (fun cs => ?_) (fun cs => ?_))
                · refine am_if_eq_F (tgt := 142) dM_rule_132 (by decide) (by decide) ?_
                  refine am_aload_n (i := 0) dM_rule_135 rfl rfl ?_
                  refine am_getf dM_rule_136 flM_35 (by first | rfl | exact sk8 (by omega) | exact sk9 (by omega) | exact sk10 (by omega) | exact sk11 (by omega)) rfl ?_
                  refine am_iload_n (i := 1) dM_rule_139 rfl rfl ?_
                  refine am_iload_n (i := 2) dM_rule_140 rfl rfl ?_
                  refine am_iast' dM_rule_141 (by first | rfl | exact sk8 (by omega) | exact sk9 (by omega) | exact sk10 (by omega) | exact sk11 (by omega)) rfl (by first | omega | assumption | decide) (by decide) (by decide) (by first | exact wm_kd (by omega) | exact wm_kh (by omega) | exact wm_fi (by omega) | exact wm_fh (by omega) | exact wm_se (by omega) | exact wm_sh (by omega) | exact wm_np (by omega) | exact wm_ph (by omega) | exact wm_nq (by omega) | exact wm_qh (by omega) | exact wm_ro | exact wm_co | exact wm_mm | exact wm_sd | exact wm_pa | exact wm_ce | exact wm_wd | exact wm_ud | exact wm_vn | exact wm_sm) ?_
                  refine am_aload_n (i := 0) dM_rule_142 rfl rfl ?_
                  refine am_getf dM_rule_143 flM_35 (by first | rfl | exact sk8 (by omega) | exact sk9 (by omega) | exact sk10 (by omega) | exact sk11 (by omega)) rfl ?_
                  refine am_iload_n (i := 1) dM_rule_146 rfl rfl ?_
                  refine am_iald dM_rule_147 (by first | rfl | exact sk8 (by omega) | exact sk9 (by omega) | exact sk10 (by omega) | exact sk11 (by omega)) rfl (by first | omega | assumption | decide) (by decide) (by decide) (by first | exact congrArg am_I (upd_eq _ _ _) | rfl) ?_
                  refine am_iload_n (i := 1) dM_rule_148 rfl rfl ?_
                  refine am_icmp_eq_F (tgt := 154) dM_rule_149 (by decide) (q_arg_ne b3 n3 (by omega)) ?_
                  refine am_iconst (v := 2) dM_rule_152 (by decide) ?_
                  refine am_iret (st := []) rfl rfl dM_rule_153 ?_
                  have co : ¬ q_only P v := by grind
                  have en : q_neut P v = P v 3 := by unfold q_neut; rw [if_pos (q_res10 hkd c123), if_pos cs]
                  have hr := ru2 co (by rw [en]; exact n3)
                  exact k _ _ _ (by rw [hr]; rfl) (q_tab0 (Or.inr (Or.inl hr))).symm (by rw [q_dir2 hr, en, if_neg n3])
                · refine am_if_eq_T (tgt := 142) dM_rule_132 (by decide) (by decide) ?_
                  refine am_aload_n (i := 0) dM_rule_142 rfl rfl ?_
                  refine am_getf dM_rule_143 flM_35 (by first | rfl | exact sk8 (by omega) | exact sk9 (by omega) | exact sk10 (by omega) | exact sk11 (by omega)) rfl ?_
                  refine am_iload_n (i := 1) dM_rule_146 rfl rfl ?_
                  refine am_iald dM_rule_147 (by first | rfl | exact sk8 (by omega) | exact sk9 (by omega) | exact sk10 (by omega) | exact sk11 (by omega)) rfl (by first | omega | assumption | decide) (by decide) (by decide) (by first | exact congrArg am_I (upd_eq _ _ _) | rfl) ?_
                  refine am_iload_n (i := 1) dM_rule_148 rfl rfl ?_
                  refine am_icmp_eq_T (tgt := 154) dM_rule_149 (by decide) hst ?_
                  refine am_iload (i := 4) dM_rule_154 rfl ?_
                  refine am_iconst (v := 4) dM_rule_156 (by decide) ?_
                  refine am_icmp_ne_T (tgt := 186) dM_rule_157 (by decide) c73 ?_
                  refine am_iload (i := 4) dM_rule_186 rfl ?_
                  refine am_iconst (v := 5) dM_rule_188 (by decide) ?_
                  refine am_icmp_ne (tgt := 206) dM_rule_189 (by decide) (fun c189 => ?_) (fun c189 => ?_)
                  · refine am_iload (i := 4) dM_rule_206 rfl ?_
                    refine am_aload_n (i := 0) dM_rule_208 rfl rfl ?_
                    refine am_getf dM_rule_209 flM_7 (by first | rfl | exact sk8 (by omega) | exact sk9 (by omega) | exact sk10 (by omega) | exact sk11 (by omega)) rfl ?_
                    refine am_iload_n (i := 2) dM_rule_212 rfl rfl ?_
                    refine am_iald dM_rule_213 (by first | rfl | exact sk8 (by omega) | exact sk9 (by omega) | exact sk10 (by omega) | exact sk11 (by omega)) e3 (by first | omega | assumption | decide) (by decide) (by decide) (by first | exact congrArg am_I (mkd_lo (by omega)) | exact congrArg am_I (mkd_hi (by omega)) | rfl) ?_
                    refine am_icmp_ne (tgt := 238) dM_rule_214 (by decide) (fun c214 => ?_) (fun c214 => ?_)
                    · refine am_iconst (v := 0) dM_rule_238 (by decide) ?_
                      refine am_iret (st := []) rfl rfl dM_rule_239 ?_
                      have co : ¬ q_only P v := by grind
                      have en : q_neut P v = -1 := by unfold q_neut; rw [if_pos (q_res10 hkd c123), if_neg cs]
                      have z3 : ¬ q_z3 P v := by grind
                      have z4 : ¬ q_z4 P v := by grind
                      have hr := ru0 co en z3 z4 (by unfold q_twi; grind)
                      exact k _ _ _ (by rw [hr]; rfl) (q_tab0 (Or.inl hr)).symm (by rw [q_dir0 (Or.inl hr), if_pos rfl])
                    · refine am_iload (i := 4) dM_rule_217 rfl ?_
                      refine am_bipush (v := 6) dM_rule_219 (by decide) ?_
                      refine am_icmp_eq (tgt := 240) dM_rule_221 (by decide) (fun c221 => ?_) (fun c221 => ?_)
                      · have ha := (hP (ix (P v 3)) (by omega)).1.1
                        refine am_aload_n (i := 0) dM_rule_240 rfl rfl ?_
                        refine am_getf dM_rule_241 flM_13 (by first | rfl | exact sk8 (by omega) | exact sk9 (by omega) | exact sk10 (by omega) | exact sk11 (by omega)) rfl ?_
                        refine am_iload_n (i := 2) dM_rule_244 rfl rfl ?_
                        refine am_iald dM_rule_245 (by first | rfl | exact sk8 (by omega) | exact sk9 (by omega) | exact sk10 (by omega) | exact sk11 (by omega)) e3 (by first | omega | assumption | decide) (by decide) (by decide) (by first | exact congrArg am_I (mkd_lo (by omega)) | exact congrArg am_I (mkd_hi (by omega)) | rfl) ?_
                        refine am_istore (i := 5) dM_rule_246 (by decide) ?_
                        refine am_iload (i := 4) dM_rule_248 rfl ?_
                        refine am_bipush (v := 11) dM_rule_250 (by decide) ?_
                        refine am_icmp_ne_T (tgt := 265) dM_rule_252 (by decide) (by rw [c221]; decide) ?_
                        refine am_aload_n (i := 0) dM_rule_265 rfl rfl ?_
                        refine am_getf dM_rule_266 flM_35 (by first | rfl | exact sk8 (by omega) | exact sk9 (by omega) | exact sk10 (by omega) | exact sk11 (by omega)) rfl ?_
                        refine am_iload_n (i := 1) dM_rule_269 rfl rfl ?_
                        refine am_iload (i := 5) dM_rule_270 rfl ?_
                        refine am_iast' dM_rule_272 (by first | rfl | exact sk8 (by omega) | exact sk9 (by omega) | exact sk10 (by omega) | exact sk11 (by omega)) rfl (by first | omega | assumption | decide) (by decide) (by decide) (by first | exact wm_kd (by omega) | exact wm_kh (by omega) | exact wm_fi (by omega) | exact wm_fh (by omega) | exact wm_se (by omega) | exact wm_sh (by omega) | exact wm_np (by omega) | exact wm_ph (by omega) | exact wm_nq (by omega) | exact wm_qh (by omega) | exact wm_ro | exact wm_co | exact wm_mm | exact wm_sd | exact wm_pa | exact wm_ce | exact wm_wd | exact wm_ud | exact wm_vn | exact wm_sm) ?_
                        refine am_goto (tgt := 284) dM_rule_273 (by decide) ?_
                        refine am_iconst (v := 5) dM_rule_284 (by decide) ?_
                        refine am_iret (st := []) rfl rfl dM_rule_285 ?_
                        have co : ¬ q_only P v := by grind
                        have en : q_neut P v = -1 := by unfold q_neut; rw [if_pos (q_res10 hkd c123), if_neg cs]
                        have z3 : ¬ q_z3 P v := by grind
                        have z4 : ¬ q_z4 P v := by grind
                        have tw : q_twi P v = P (ix (P v 3)) 3 := by unfold q_twi; rw [if_pos (by grind), if_pos c214.symm]
                        have ni : ¬ P (ix (P v 3)) 3 = -1 := (hP (ix (P v 3)) (by omega)).1.2.2.1 (by rw [← c214]; exact k2_of _ c221 (by decide))
                        have hne : ¬ q_twi P v = -1 := by rw [tw]; exact ni
                        obtain ⟨t6, -⟩ := q_twi_11 hP hv hn hne
                        have hr := ru5 co en z3 z4 hne
                        have hs : q_shp P v (ix (q_twi P v)) := t6 (by grind)
                        exact k _ _ _ (by rw [hr]; rfl) (by unfold q_tab; rw [if_neg (by omega), if_neg (by omega), if_neg (fun q => q.2 hs)]) (by rw [q_dir5 hr hs, tw, if_neg ni])
                      · refine am_iload (i := 4) dM_rule_224 rfl ?_
                        refine am_bipush (v := 7) dM_rule_226 (by decide) ?_
                        refine am_icmp_eq (tgt := 240) dM_rule_228 (by decide) (fun c228 => ?_) (fun c228 => ?_)
                        · have ha := (hP (ix (P v 3)) (by omega)).1.1
                          refine am_aload_n (i := 0) dM_rule_240 rfl rfl ?_
                          refine am_getf dM_rule_241 flM_13 (by first | rfl | exact sk8 (by omega) | exact sk9 (by omega) | exact sk10 (by omega) | exact sk11 (by omega)) rfl ?_
                          refine am_iload_n (i := 2) dM_rule_244 rfl rfl ?_
                          refine am_iald dM_rule_245 (by first | rfl | exact sk8 (by omega) | exact sk9 (by omega) | exact sk10 (by omega) | exact sk11 (by omega)) e3 (by first | omega | assumption | decide) (by decide) (by decide) (by first | exact congrArg am_I (mkd_lo (by omega)) | exact congrArg am_I (mkd_hi (by omega)) | rfl) ?_
                          refine am_istore (i := 5) dM_rule_246 (by decide) ?_
                          refine am_iload (i := 4) dM_rule_248 rfl ?_
                          refine am_bipush (v := 11) dM_rule_250 (by decide) ?_
                          refine am_icmp_ne_T (tgt := 265) dM_rule_252 (by decide) (by rw [c228]; decide) ?_
                          refine am_aload_n (i := 0) dM_rule_265 rfl rfl ?_
                          refine am_getf dM_rule_266 flM_35 (by first | rfl | exact sk8 (by omega) | exact sk9 (by omega) | exact sk10 (by omega) | exact sk11 (by omega)) rfl ?_
                          refine am_iload_n (i := 1) dM_rule_269 rfl rfl ?_
                          refine am_iload (i := 5) dM_rule_270 rfl ?_
                          refine am_iast' dM_rule_272 (by first | rfl | exact sk8 (by omega) | exact sk9 (by omega) | exact sk10 (by omega) | exact sk11 (by omega)) rfl (by first | omega | assumption | decide) (by decide) (by decide) (by first | exact wm_kd (by omega) | exact wm_kh (by omega) | exact wm_fi (by omega) | exact wm_fh (by omega) | exact wm_se (by omega) | exact wm_sh (by omega) | exact wm_np (by omega) | exact wm_ph (by omega) | exact wm_nq (by omega) | exact wm_qh (by omega) | exact wm_ro | exact wm_co | exact wm_mm | exact wm_sd | exact wm_pa | exact wm_ce | exact wm_wd | exact wm_ud | exact wm_vn | exact wm_sm) ?_
                          refine am_goto (tgt := 284) dM_rule_273 (by decide) ?_
                          refine am_iconst (v := 5) dM_rule_284 (by decide) ?_
                          refine am_iret (st := []) rfl rfl dM_rule_285 ?_
                          have co : ¬ q_only P v := by grind
                          have en : q_neut P v = -1 := by unfold q_neut; rw [if_pos (q_res10 hkd c123), if_neg cs]
                          have z3 : ¬ q_z3 P v := by grind
                          have z4 : ¬ q_z4 P v := by grind
                          have tw : q_twi P v = P (ix (P v 3)) 3 := by unfold q_twi; rw [if_pos (by grind), if_pos c214.symm]
                          have ni : ¬ P (ix (P v 3)) 3 = -1 := (hP (ix (P v 3)) (by omega)).1.2.2.1 (by rw [← c214]; exact k2_of _ c228 (by decide))
                          have hne : ¬ q_twi P v = -1 := by rw [tw]; exact ni
                          obtain ⟨t6, -⟩ := q_twi_11 hP hv hn hne
                          have hr := ru5 co en z3 z4 hne
                          have hs : q_shp P v (ix (q_twi P v)) := t6 (by grind)
                          exact k _ _ _ (by rw [hr]; rfl) (by unfold q_tab; rw [if_neg (by omega), if_neg (by omega), if_neg (fun q => q.2 hs)]) (by rw [q_dir5 hr hs, tw, if_neg ni])
                        · refine am_iload (i := 4) dM_rule_231 rfl ?_
                          refine am_bipush (v := 11) dM_rule_233 (by decide) ?_
                          refine am_icmp_eq (tgt := 240) dM_rule_235 (by decide) (fun c235 => ?_) (fun c235 => ?_)
                          · have ha := (hP (ix (P v 3)) (by omega)).1.1
                            refine am_aload_n (i := 0) dM_rule_240 rfl rfl ?_
                            refine am_getf dM_rule_241 flM_13 (by first | rfl | exact sk8 (by omega) | exact sk9 (by omega) | exact sk10 (by omega) | exact sk11 (by omega)) rfl ?_
                            refine am_iload_n (i := 2) dM_rule_244 rfl rfl ?_
                            refine am_iald dM_rule_245 (by first | rfl | exact sk8 (by omega) | exact sk9 (by omega) | exact sk10 (by omega) | exact sk11 (by omega)) e3 (by first | omega | assumption | decide) (by decide) (by decide) (by first | exact congrArg am_I (mkd_lo (by omega)) | exact congrArg am_I (mkd_hi (by omega)) | rfl) ?_
                            refine am_istore (i := 5) dM_rule_246 (by decide) ?_
                            refine am_iload (i := 4) dM_rule_248 rfl ?_
                            refine am_bipush (v := 11) dM_rule_250 (by decide) ?_
                            refine am_icmp_ne_F (tgt := 265) dM_rule_252 (by decide) c235 ?_
                            have ni : ¬ P (ix (P v 3)) 3 = -1 := (hP (ix (P v 3)) (by omega)).1.2.2.1 (by rw [← c214]; exact k2_of 11 (by grind) (by decide))
                            obtain ⟨gi, ei⟩ := ha.ix ni (by omega)
                            refine am_aload_n (i := 0) dM_rule_255 rfl rfl ?_
                            refine am_iload_n (i := 1) dM_rule_256 rfl rfl ?_
                            refine am_iload (i := 5) dM_rule_257 rfl ?_
                            refine am_callV (ac' := 0) (as' := 0) (xs := [_, _]) dM_rule_259 lkM_88 (by first | rfl | exact sk8 (by omega) | exact sk9 (by omega) | exact sk10 (by omega) | exact sk11 (by omega)) rfl rfl rfl rfl (Nat.le_of_ble_eq_true rfl) rfl rfl (cM_sameShape (v := v) (u := ix (P (ix (P v 3)) 3)) (by omega) (by omega) rfl ei (fun ch => ?_) (fun ch => ?_))
                            · refine am_if_eq_F (tgt := 276) dM_rule_262 (by decide) (by decide) ?_
                              refine am_aload_n (i := 0) dM_rule_265 rfl rfl ?_
                              refine am_getf dM_rule_266 flM_35 (by first | rfl | exact sk8 (by omega) | exact sk9 (by omega) | exact sk10 (by omega) | exact sk11 (by omega)) rfl ?_
                              refine am_iload_n (i := 1) dM_rule_269 rfl rfl ?_
                              refine am_iload (i := 5) dM_rule_270 rfl ?_
                              refine am_iast' dM_rule_272 (by first | rfl | exact sk8 (by omega) | exact sk9 (by omega) | exact sk10 (by omega) | exact sk11 (by omega)) rfl (by first | omega | assumption | decide) (by decide) (by decide) (by first | exact wm_kd (by omega) | exact wm_kh (by omega) | exact wm_fi (by omega) | exact wm_fh (by omega) | exact wm_se (by omega) | exact wm_sh (by omega) | exact wm_np (by omega) | exact wm_ph (by omega) | exact wm_nq (by omega) | exact wm_qh (by omega) | exact wm_ro | exact wm_co | exact wm_mm | exact wm_sd | exact wm_pa | exact wm_ce | exact wm_wd | exact wm_ud | exact wm_vn | exact wm_sm) ?_
                              refine am_goto (tgt := 284) dM_rule_273 (by decide) ?_
                              refine am_iconst (v := 5) dM_rule_284 (by decide) ?_
                              refine am_iret (st := []) rfl rfl dM_rule_285 ?_
                              have co : ¬ q_only P v := by grind
                              have en : q_neut P v = -1 := by unfold q_neut; rw [if_pos (q_res10 hkd c123), if_neg cs]
                              have z3 : ¬ q_z3 P v := by grind
                              have z4 : ¬ q_z4 P v := by grind
                              have tw : q_twi P v = P (ix (P v 3)) 3 := by unfold q_twi; rw [if_pos (by grind), if_pos c214.symm]
                              have ni : ¬ P (ix (P v 3)) 3 = -1 := (hP (ix (P v 3)) (by omega)).1.2.2.1 (by rw [← c214]; exact k2_of _ c235 (by decide))
                              have hne : ¬ q_twi P v = -1 := by rw [tw]; exact ni
                              obtain ⟨t6, -⟩ := q_twi_11 hP hv hn hne
                              have hr := ru5 co en z3 z4 hne
                              have hs : q_shp P v (ix (q_twi P v)) := by rw [tw]; exact ch
                              exact k _ _ _ (by rw [hr]; rfl) (by unfold q_tab; rw [if_neg (by omega), if_neg (by omega), if_neg (fun q => q.2 hs)]) (by rw [q_dir5 hr hs, tw, if_neg ni])
                            · refine am_if_eq_T (tgt := 276) dM_rule_262 (by decide) (by decide) ?_
                              refine am_aload_n (i := 0) dM_rule_276 rfl rfl ?_
                              refine am_getf dM_rule_277 flM_13 (by first | rfl | exact sk8 (by omega) | exact sk9 (by omega) | exact sk10 (by omega) | exact sk11 (by omega)) rfl ?_
                              refine am_iload_n (i := 1) dM_rule_280 rfl rfl ?_
                              refine am_iload (i := 5) dM_rule_281 rfl ?_
                              refine am_iast' dM_rule_283 (by first | rfl | exact sk8 (by omega) | exact sk9 (by omega) | exact sk10 (by omega) | exact sk11 (by omega)) rfl (by first | omega | assumption | decide) (by decide) (by decide) (by first | exact wm_kd (by omega) | exact wm_kh (by omega) | exact wm_fi (by omega) | exact wm_fh (by omega) | exact wm_se (by omega) | exact wm_sh (by omega) | exact wm_np (by omega) | exact wm_ph (by omega) | exact wm_nq (by omega) | exact wm_qh (by omega) | exact wm_ro | exact wm_co | exact wm_mm | exact wm_sd | exact wm_pa | exact wm_ce | exact wm_wd | exact wm_ud | exact wm_vn | exact wm_sm) ?_
                              refine am_iconst (v := 5) dM_rule_284 (by decide) ?_
                              refine am_iret (st := []) rfl rfl dM_rule_285 ?_
                              have co : ¬ q_only P v := by grind
                              have en : q_neut P v = -1 := by unfold q_neut; rw [if_pos (q_res10 hkd c123), if_neg cs]
                              have z3 : ¬ q_z3 P v := by grind
                              have z4 : ¬ q_z4 P v := by grind
                              have tw : q_twi P v = P (ix (P v 3)) 3 := by unfold q_twi; rw [if_pos (by grind), if_pos c214.symm]
                              have ni : ¬ P (ix (P v 3)) 3 = -1 := (hP (ix (P v 3)) (by omega)).1.2.2.1 (by rw [← c214]; exact k2_of _ c235 (by decide))
                              have hne : ¬ q_twi P v = -1 := by rw [tw]; exact ni
                              obtain ⟨t6, -⟩ := q_twi_11 hP hv hn hne
                              have hr := ru5 co en z3 z4 hne
                              have hs : ¬ q_shp P v (ix (q_twi P v)) := by rw [tw]; exact ch
                              exact k _ _ _ (by rw [hr]; rfl) (by unfold q_tab; rw [if_neg (by omega), if_neg (by omega), if_pos ⟨hr, hs⟩, tw]) (by rw [q_dir5n hr hs, if_pos rfl])
                          · refine am_iconst (v := 0) dM_rule_238 (by decide) ?_
                            refine am_iret (st := []) rfl rfl dM_rule_239 ?_
                            have co : ¬ q_only P v := by grind
                            have en : q_neut P v = -1 := by unfold q_neut; rw [if_pos (q_res10 hkd c123), if_neg cs]
                            have z3 : ¬ q_z3 P v := by grind
                            have z4 : ¬ q_z4 P v := by grind
                            have hr := ru0 co en z3 z4 (by unfold q_twi; grind)
                            exact k _ _ _ (by rw [hr]; rfl) (q_tab0 (Or.inl hr)).symm (by rw [q_dir0 (Or.inl hr), if_pos rfl])
                  · refine am_iload_n (i := 2) dM_rule_192 rfl rfl ?_
                    refine am_iload_n (i := 3) dM_rule_193 rfl rfl ?_
                    refine am_icmp_ne (tgt := 206) dM_rule_194 (by decide) (fun c194 => ?_) (fun c194 => ?_)
                    · refine am_iload (i := 4) dM_rule_206 rfl ?_
                      refine am_aload_n (i := 0) dM_rule_208 rfl rfl ?_
                      refine am_getf dM_rule_209 flM_7 (by first | rfl | exact sk8 (by omega) | exact sk9 (by omega) | exact sk10 (by omega) | exact sk11 (by omega)) rfl ?_
                      refine am_iload_n (i := 2) dM_rule_212 rfl rfl ?_
                      refine am_iald dM_rule_213 (by first | rfl | exact sk8 (by omega) | exact sk9 (by omega) | exact sk10 (by omega) | exact sk11 (by omega)) e3 (by first | omega | assumption | decide) (by decide) (by decide) (by first | exact congrArg am_I (mkd_lo (by omega)) | exact congrArg am_I (mkd_hi (by omega)) | rfl) ?_
                      refine am_icmp_ne (tgt := 238) dM_rule_214 (by decide) (fun c214 => ?_) (fun c214 => ?_)
                      · refine am_iconst (v := 0) dM_rule_238 (by decide) ?_
                        refine am_iret (st := []) rfl rfl dM_rule_239 ?_
                        have co : ¬ q_only P v := by grind
                        have en : q_neut P v = -1 := by unfold q_neut; rw [if_pos (q_res10 hkd c123), if_neg cs]
                        have z3 : ¬ q_z3 P v := by grind
                        have z4 : ¬ q_z4 P v := by grind
                        have hr := ru0 co en z3 z4 (by unfold q_twi; grind)
                        exact k _ _ _ (by rw [hr]; rfl) (q_tab0 (Or.inl hr)).symm (by rw [q_dir0 (Or.inl hr), if_pos rfl])
                      · refine am_iload (i := 4) dM_rule_217 rfl ?_
                        refine am_bipush (v := 6) dM_rule_219 (by decide) ?_
                        refine am_icmp_eq (tgt := 240) dM_rule_221 (by decide) (fun c221 => ?_) (fun c221 => ?_)
                        · have ha := (hP (ix (P v 3)) (by omega)).1.1
                          refine am_aload_n (i := 0) dM_rule_240 rfl rfl ?_
                          refine am_getf dM_rule_241 flM_13 (by first | rfl | exact sk8 (by omega) | exact sk9 (by omega) | exact sk10 (by omega) | exact sk11 (by omega)) rfl ?_
                          refine am_iload_n (i := 2) dM_rule_244 rfl rfl ?_
                          refine am_iald dM_rule_245 (by first | rfl | exact sk8 (by omega) | exact sk9 (by omega) | exact sk10 (by omega) | exact sk11 (by omega)) e3 (by first | omega | assumption | decide) (by decide) (by decide) (by first | exact congrArg am_I (mkd_lo (by omega)) | exact congrArg am_I (mkd_hi (by omega)) | rfl) ?_
                          refine am_istore (i := 5) dM_rule_246 (by decide) ?_
                          refine am_iload (i := 4) dM_rule_248 rfl ?_
                          refine am_bipush (v := 11) dM_rule_250 (by decide) ?_
                          refine am_icmp_ne_T (tgt := 265) dM_rule_252 (by decide) (by rw [c221]; decide) ?_
                          refine am_aload_n (i := 0) dM_rule_265 rfl rfl ?_
                          refine am_getf dM_rule_266 flM_35 (by first | rfl | exact sk8 (by omega) | exact sk9 (by omega) | exact sk10 (by omega) | exact sk11 (by omega)) rfl ?_
                          refine am_iload_n (i := 1) dM_rule_269 rfl rfl ?_
                          refine am_iload (i := 5) dM_rule_270 rfl ?_
                          refine am_iast' dM_rule_272 (by first | rfl | exact sk8 (by omega) | exact sk9 (by omega) | exact sk10 (by omega) | exact sk11 (by omega)) rfl (by first | omega | assumption | decide) (by decide) (by decide) (by first | exact wm_kd (by omega) | exact wm_kh (by omega) | exact wm_fi (by omega) | exact wm_fh (by omega) | exact wm_se (by omega) | exact wm_sh (by omega) | exact wm_np (by omega) | exact wm_ph (by omega) | exact wm_nq (by omega) | exact wm_qh (by omega) | exact wm_ro | exact wm_co | exact wm_mm | exact wm_sd | exact wm_pa | exact wm_ce | exact wm_wd | exact wm_ud | exact wm_vn | exact wm_sm) ?_
                          refine am_goto (tgt := 284) dM_rule_273 (by decide) ?_
                          refine am_iconst (v := 5) dM_rule_284 (by decide) ?_
                          refine am_iret (st := []) rfl rfl dM_rule_285 ?_
                          have co : ¬ q_only P v := by grind
                          have en : q_neut P v = -1 := by unfold q_neut; rw [if_pos (q_res10 hkd c123), if_neg cs]
                          have z3 : ¬ q_z3 P v := by grind
                          have z4 : ¬ q_z4 P v := by grind
                          have tw : q_twi P v = P (ix (P v 3)) 3 := by unfold q_twi; rw [if_pos (by grind), if_pos c214.symm]
                          have ni : ¬ P (ix (P v 3)) 3 = -1 := (hP (ix (P v 3)) (by omega)).1.2.2.1 (by rw [← c214]; exact k2_of _ c221 (by decide))
                          have hne : ¬ q_twi P v = -1 := by rw [tw]; exact ni
                          obtain ⟨t6, -⟩ := q_twi_11 hP hv hn hne
                          have hr := ru5 co en z3 z4 hne
                          have hs : q_shp P v (ix (q_twi P v)) := t6 (by grind)
                          exact k _ _ _ (by rw [hr]; rfl) (by unfold q_tab; rw [if_neg (by omega), if_neg (by omega), if_neg (fun q => q.2 hs)]) (by rw [q_dir5 hr hs, tw, if_neg ni])
                        · refine am_iload (i := 4) dM_rule_224 rfl ?_
                          refine am_bipush (v := 7) dM_rule_226 (by decide) ?_
                          refine am_icmp_eq (tgt := 240) dM_rule_228 (by decide) (fun c228 => ?_) (fun c228 => ?_)
                          · have ha := (hP (ix (P v 3)) (by omega)).1.1
                            refine am_aload_n (i := 0) dM_rule_240 rfl rfl ?_
                            refine am_getf dM_rule_241 flM_13 (by first | rfl | exact sk8 (by omega) | exact sk9 (by omega) | exact sk10 (by omega) | exact sk11 (by omega)) rfl ?_
                            refine am_iload_n (i := 2) dM_rule_244 rfl rfl ?_
                            refine am_iald dM_rule_245 (by first | rfl | exact sk8 (by omega) | exact sk9 (by omega) | exact sk10 (by omega) | exact sk11 (by omega)) e3 (by first | omega | assumption | decide) (by decide) (by decide) (by first | exact congrArg am_I (mkd_lo (by omega)) | exact congrArg am_I (mkd_hi (by omega)) | rfl) ?_
                            refine am_istore (i := 5) dM_rule_246 (by decide) ?_
                            refine am_iload (i := 4) dM_rule_248 rfl ?_
                            refine am_bipush (v := 11) dM_rule_250 (by decide) ?_
                            refine am_icmp_ne_T (tgt := 265) dM_rule_252 (by decide) (by rw [c228]; decide) ?_
                            refine am_aload_n (i := 0) dM_rule_265 rfl rfl ?_
                            refine am_getf dM_rule_266 flM_35 (by first | rfl | exact sk8 (by omega) | exact sk9 (by omega) | exact sk10 (by omega) | exact sk11 (by omega)) rfl ?_
                            refine am_iload_n (i := 1) dM_rule_269 rfl rfl ?_
                            refine am_iload (i := 5) dM_rule_270 rfl ?_
                            refine am_iast' dM_rule_272 (by first | rfl | exact sk8 (by omega) | exact sk9 (by omega) | exact sk10 (by omega) | exact sk11 (by omega)) rfl (by first | omega | assumption | decide) (by decide) (by decide) (by first | exact wm_kd (by omega) | exact wm_kh (by omega) | exact wm_fi (by omega) | exact wm_fh (by omega) | exact wm_se (by omega) | exact wm_sh (by omega) | exact wm_np (by omega) | exact wm_ph (by omega) | exact wm_nq (by omega) | exact wm_qh (by omega) | exact wm_ro | exact wm_co | exact wm_mm | exact wm_sd | exact wm_pa | exact wm_ce | exact wm_wd | exact wm_ud | exact wm_vn | exact wm_sm) ?_
                            refine am_goto (tgt := 284) dM_rule_273 (by decide) ?_
                            refine am_iconst (v := 5) dM_rule_284 (by decide) ?_
                            refine am_iret (st := []) rfl rfl dM_rule_285 ?_
                            have co : ¬ q_only P v := by grind
                            have en : q_neut P v = -1 := by unfold q_neut; rw [if_pos (q_res10 hkd c123), if_neg cs]
                            have z3 : ¬ q_z3 P v := by grind
                            have z4 : ¬ q_z4 P v := by grind
                            have tw : q_twi P v = P (ix (P v 3)) 3 := by unfold q_twi; rw [if_pos (by grind), if_pos c214.symm]
                            have ni : ¬ P (ix (P v 3)) 3 = -1 := (hP (ix (P v 3)) (by omega)).1.2.2.1 (by rw [← c214]; exact k2_of _ c228 (by decide))
                            have hne : ¬ q_twi P v = -1 := by rw [tw]; exact ni
                            obtain ⟨t6, -⟩ := q_twi_11 hP hv hn hne
                            have hr := ru5 co en z3 z4 hne
                            have hs : q_shp P v (ix (q_twi P v)) := t6 (by grind)
                            exact k _ _ _ (by rw [hr]; rfl) (by unfold q_tab; rw [if_neg (by omega), if_neg (by omega), if_neg (fun q => q.2 hs)]) (by rw [q_dir5 hr hs, tw, if_neg ni])
                          · refine am_iload (i := 4) dM_rule_231 rfl ?_
                            refine am_bipush (v := 11) dM_rule_233 (by decide) ?_
                            refine am_icmp_eq (tgt := 240) dM_rule_235 (by decide) (fun c235 => ?_) (fun c235 => ?_)
                            · have ha := (hP (ix (P v 3)) (by omega)).1.1
                              refine am_aload_n (i := 0) dM_rule_240 rfl rfl ?_
                              refine am_getf dM_rule_241 flM_13 (by first | rfl | exact sk8 (by omega) | exact sk9 (by omega) | exact sk10 (by omega) | exact sk11 (by omega)) rfl ?_
                              refine am_iload_n (i := 2) dM_rule_244 rfl rfl ?_
                              refine am_iald dM_rule_245 (by first | rfl | exact sk8 (by omega) | exact sk9 (by omega) | exact sk10 (by omega) | exact sk11 (by omega)) e3 (by first | omega | assumption | decide) (by decide) (by decide) (by first | exact congrArg am_I (mkd_lo (by omega)) | exact congrArg am_I (mkd_hi (by omega)) | rfl) ?_
                              refine am_istore (i := 5) dM_rule_246 (by decide) ?_
                              refine am_iload (i := 4) dM_rule_248 rfl ?_
                              refine am_bipush (v := 11) dM_rule_250 (by decide) ?_
                              refine am_icmp_ne_F (tgt := 265) dM_rule_252 (by decide) c235 ?_
                              have ni : ¬ P (ix (P v 3)) 3 = -1 := (hP (ix (P v 3)) (by omega)).1.2.2.1 (by rw [← c214]; exact k2_of 11 (by grind) (by decide))
                              obtain ⟨gi, ei⟩ := ha.ix ni (by omega)
                              refine am_aload_n (i := 0) dM_rule_255 rfl rfl ?_
                              refine am_iload_n (i := 1) dM_rule_256 rfl rfl ?_
                              refine am_iload (i := 5) dM_rule_257 rfl ?_
                              refine am_callV (ac' := 0) (as' := 0) (xs := [_, _]) dM_rule_259 lkM_88 (by first | rfl | exact sk8 (by omega) | exact sk9 (by omega) | exact sk10 (by omega) | exact sk11 (by omega)) rfl rfl rfl rfl (Nat.le_of_ble_eq_true rfl) rfl rfl (cM_sameShape (v := v) (u := ix (P (ix (P v 3)) 3)) (by omega) (by omega) rfl ei (fun ch => ?_) (fun ch => ?_))
                              · refine am_if_eq_F (tgt := 276) dM_rule_262 (by decide) (by decide) ?_
                                refine am_aload_n (i := 0) dM_rule_265 rfl rfl ?_
                                refine am_getf dM_rule_266 flM_35 (by first | rfl | exact sk8 (by omega) | exact sk9 (by omega) | exact sk10 (by omega) | exact sk11 (by omega)) rfl ?_
                                refine am_iload_n (i := 1) dM_rule_269 rfl rfl ?_
                                refine am_iload (i := 5) dM_rule_270 rfl ?_
                                refine am_iast' dM_rule_272 (by first | rfl | exact sk8 (by omega) | exact sk9 (by omega) | exact sk10 (by omega) | exact sk11 (by omega)) rfl (by first | omega | assumption | decide) (by decide) (by decide) (by first | exact wm_kd (by omega) | exact wm_kh (by omega) | exact wm_fi (by omega) | exact wm_fh (by omega) | exact wm_se (by omega) | exact wm_sh (by omega) | exact wm_np (by omega) | exact wm_ph (by omega) | exact wm_nq (by omega) | exact wm_qh (by omega) | exact wm_ro | exact wm_co | exact wm_mm | exact wm_sd | exact wm_pa | exact wm_ce | exact wm_wd | exact wm_ud | exact wm_vn | exact wm_sm) ?_
                                refine am_goto (tgt := 284) dM_rule_273 (by decide) ?_
                                refine am_iconst (v := 5) dM_rule_284 (by decide) ?_
                                refine am_iret (st := []) rfl rfl dM_rule_285 ?_
                                have co : ¬ q_only P v := by grind
                                have en : q_neut P v = -1 := by unfold q_neut; rw [if_pos (q_res10 hkd c123), if_neg cs]
                                have z3 : ¬ q_z3 P v := by grind
                                have z4 : ¬ q_z4 P v := by grind
                                have tw : q_twi P v = P (ix (P v 3)) 3 := by unfold q_twi; rw [if_pos (by grind), if_pos c214.symm]
                                have ni : ¬ P (ix (P v 3)) 3 = -1 := (hP (ix (P v 3)) (by omega)).1.2.2.1 (by rw [← c214]; exact k2_of _ c235 (by decide))
                                have hne : ¬ q_twi P v = -1 := by rw [tw]; exact ni
                                obtain ⟨t6, -⟩ := q_twi_11 hP hv hn hne
                                have hr := ru5 co en z3 z4 hne
                                have hs : q_shp P v (ix (q_twi P v)) := by rw [tw]; exact ch
                                exact k _ _ _ (by rw [hr]; rfl) (by unfold q_tab; rw [if_neg (by omega), if_neg (by omega), if_neg (fun q => q.2 hs)]) (by rw [q_dir5 hr hs, tw, if_neg ni])
                              · refine am_if_eq_T (tgt := 276) dM_rule_262 (by decide) (by decide) ?_
                                refine am_aload_n (i := 0) dM_rule_276 rfl rfl ?_
                                refine am_getf dM_rule_277 flM_13 (by first | rfl | exact sk8 (by omega) | exact sk9 (by omega) | exact sk10 (by omega) | exact sk11 (by omega)) rfl ?_
                                refine am_iload_n (i := 1) dM_rule_280 rfl rfl ?_
                                refine am_iload (i := 5) dM_rule_281 rfl ?_
                                refine am_iast' dM_rule_283 (by first | rfl | exact sk8 (by omega) | exact sk9 (by omega) | exact sk10 (by omega) | exact sk11 (by omega)) rfl (by first | omega | assumption | decide) (by decide) (by decide) (by first | exact wm_kd (by omega) | exact wm_kh (by omega) | exact wm_fi (by omega) | exact wm_fh (by omega) | exact wm_se (by omega) | exact wm_sh (by omega) | exact wm_np (by omega) | exact wm_ph (by omega) | exact wm_nq (by omega) | exact wm_qh (by omega) | exact wm_ro | exact wm_co | exact wm_mm | exact wm_sd | exact wm_pa | exact wm_ce | exact wm_wd | exact wm_ud | exact wm_vn | exact wm_sm) ?_
                                refine am_iconst (v := 5) dM_rule_284 (by decide) ?_
                                refine am_iret (st := []) rfl rfl dM_rule_285 ?_
                                have co : ¬ q_only P v := by grind
                                have en : q_neut P v = -1 := by unfold q_neut; rw [if_pos (q_res10 hkd c123), if_neg cs]
                                have z3 : ¬ q_z3 P v := by grind
                                have z4 : ¬ q_z4 P v := by grind
                                have tw : q_twi P v = P (ix (P v 3)) 3 := by unfold q_twi; rw [if_pos (by grind), if_pos c214.symm]
                                have ni : ¬ P (ix (P v 3)) 3 = -1 := (hP (ix (P v 3)) (by omega)).1.2.2.1 (by rw [← c214]; exact k2_of _ c235 (by decide))
                                have hne : ¬ q_twi P v = -1 := by rw [tw]; exact ni
                                obtain ⟨t6, -⟩ := q_twi_11 hP hv hn hne
                                have hr := ru5 co en z3 z4 hne
                                have hs : ¬ q_shp P v (ix (q_twi P v)) := by rw [tw]; exact ch
                                exact k _ _ _ (by rw [hr]; rfl) (by unfold q_tab; rw [if_neg (by omega), if_neg (by omega), if_pos ⟨hr, hs⟩, tw]) (by rw [q_dir5n hr hs, if_pos rfl])
                            · refine am_iconst (v := 0) dM_rule_238 (by decide) ?_
                              refine am_iret (st := []) rfl rfl dM_rule_239 ?_
                              have co : ¬ q_only P v := by grind
                              have en : q_neut P v = -1 := by unfold q_neut; rw [if_pos (q_res10 hkd c123), if_neg cs]
                              have z3 : ¬ q_z3 P v := by grind
                              have z4 : ¬ q_z4 P v := by grind
                              have hr := ru0 co en z3 z4 (by unfold q_twi; grind)
                              exact k _ _ _ (by rw [hr]; rfl) (q_tab0 (Or.inl hr)).symm (by rw [q_dir0 (Or.inl hr), if_pos rfl])
                    · refine am_aload_n (i := 0) dM_rule_197 rfl rfl ?_
                      refine am_getf dM_rule_198 flM_35 (by first | rfl | exact sk8 (by omega) | exact sk9 (by omega) | exact sk10 (by omega) | exact sk11 (by omega)) rfl ?_
                      refine am_iload_n (i := 1) dM_rule_201 rfl rfl ?_
                      refine am_iload_n (i := 2) dM_rule_202 rfl rfl ?_
                      refine am_iast' dM_rule_203 (by first | rfl | exact sk8 (by omega) | exact sk9 (by omega) | exact sk10 (by omega) | exact sk11 (by omega)) rfl (by first | omega | assumption | decide) (by decide) (by decide) (by first | exact wm_kd (by omega) | exact wm_kh (by omega) | exact wm_fi (by omega) | exact wm_fh (by omega) | exact wm_se (by omega) | exact wm_sh (by omega) | exact wm_np (by omega) | exact wm_ph (by omega) | exact wm_nq (by omega) | exact wm_qh (by omega) | exact wm_ro | exact wm_co | exact wm_mm | exact wm_sd | exact wm_pa | exact wm_ce | exact wm_wd | exact wm_ud | exact wm_vn | exact wm_sm) ?_
                      refine am_iconst (v := 4) dM_rule_204 (by decide) ?_
                      refine am_iret (st := []) rfl rfl dM_rule_205 ?_
                      have co : ¬ q_only P v := by grind
                      have en : q_neut P v = -1 := by unfold q_neut; rw [if_pos (q_res10 hkd c123), if_neg cs]
                      have z3 : ¬ q_z3 P v := by grind
                      have hr := ru4 co en z3 (by grind)
                      exact k _ _ _ (by rw [hr]; rfl) (q_tab0 (Or.inr (Or.inr hr))).symm (by rw [q_dir4 hr, if_neg n3])
            · have h34 : P v 0 = 3 ∨ P v 0 = 4 := by first | exact Or.inl c67 | exact Or.inr c73
              have n4 : ¬ P v 4 = -1 := b6 (by grind)
              obtain ⟨g4, e4⟩ := b4.ix n4 (by omega)
              refine am_iload (i := 4) dM_rule_76 rfl ?_
              refine am_iconst (v := 3) dM_rule_78 (by decide) ?_
              refine am_isub dM_rule_79 ?_
              refine am_sT (st' := am_I (if P v 0 = 3 then 0 else 1) :: _) (congrArg (fun z => am_I z :: _) (q_neu34 h34)) ?_
              refine am_istore (i := 5) dM_rule_80 (by decide) ?_
              refine am_aload_n (i := 0) dM_rule_82 rfl rfl ?_
              refine am_iload_n (i := 2) dM_rule_83 rfl rfl ?_
              refine am_iload (i := 5) dM_rule_84 rfl ?_
              refine am_callV (ac' := 0) (as' := 0) (xs := [_, _]) dM_rule_86 lkM_84 (by first | rfl | exact sk8 (by omega) | exact sk9 (by omega) | exact sk10 (by omega) | exact sk11 (by omega)) rfl rfl rfl rfl (Nat.le_of_ble_eq_true rfl) rfl rfl (cM_splat (by omega) e3 (fun ca => ?_) (fun ca => ?_))
              · refine am_if_eq_F (tgt := 102) dM_rule_89 (by decide) (by decide) ?_
                refine am_aload_n (i := 0) dM_rule_92 rfl rfl ?_
                refine am_getf dM_rule_93 flM_35 (by first | rfl | exact sk8 (by omega) | exact sk9 (by omega) | exact sk10 (by omega) | exact sk11 (by omega)) rfl ?_
                refine am_iload_n (i := 1) dM_rule_96 rfl rfl ?_
                refine am_iload_n (i := 3) dM_rule_97 rfl rfl ?_
                refine am_iast' dM_rule_98 (by first | rfl | exact sk8 (by omega) | exact sk9 (by omega) | exact sk10 (by omega) | exact sk11 (by omega)) rfl (by first | omega | assumption | decide) (by decide) (by decide) (by first | exact wm_kd (by omega) | exact wm_kh (by omega) | exact wm_fi (by omega) | exact wm_fh (by omega) | exact wm_se (by omega) | exact wm_sh (by omega) | exact wm_np (by omega) | exact wm_ph (by omega) | exact wm_nq (by omega) | exact wm_qh (by omega) | exact wm_ro | exact wm_co | exact wm_mm | exact wm_sd | exact wm_pa | exact wm_ce | exact wm_wd | exact wm_ud | exact wm_vn | exact wm_sm) ?_
                refine am_goto (tgt := 119) dM_rule_99 (by decide) ?_
                refine am_iload (i := 4) dM_rule_119 rfl ?_
                refine am_bipush (v := 10) dM_rule_121 (by decide) ?_
                refine am_icmp_lt_T (tgt := 142) dM_rule_123 (by decide) (by rw [c73]; decide) ?_
                refine am_aload_n (i := 0) dM_rule_142 rfl rfl ?_
                refine am_getf dM_rule_143 flM_35 (by first | rfl | exact sk8 (by omega) | exact sk9 (by omega) | exact sk10 (by omega) | exact sk11 (by omega)) rfl ?_
                refine am_iload_n (i := 1) dM_rule_146 rfl rfl ?_
                refine am_iald dM_rule_147 (by first | rfl | exact sk8 (by omega) | exact sk9 (by omega) | exact sk10 (by omega) | exact sk11 (by omega)) rfl (by first | omega | assumption | decide) (by decide) (by decide) (by first | exact congrArg am_I (upd_eq _ _ _) | rfl) ?_
                refine am_iload_n (i := 1) dM_rule_148 rfl rfl ?_
                refine am_icmp_eq_F (tgt := 154) dM_rule_149 (by decide) (q_arg_ne b4 n4 (by omega)) ?_
                refine am_iconst (v := 2) dM_rule_152 (by decide) ?_
                refine am_iret (st := []) rfl rfl dM_rule_153 ?_
                have co : ¬ q_only P v := by grind
                have en : q_neut P v = P v 4 := by unfold q_neut; grind
                have hr := ru2 co (by rw [en]; exact n4)
                exact k _ _ _ (by rw [hr]; rfl) (q_tab0 (Or.inr (Or.inl hr))).symm (by rw [q_dir2 hr, en, if_neg n4])
              · refine am_if_eq_T (tgt := 102) dM_rule_89 (by decide) (by decide) ?_
                refine am_aload_n (i := 0) dM_rule_102 rfl rfl ?_
                refine am_iload_n (i := 3) dM_rule_103 rfl rfl ?_
                refine am_iload (i := 5) dM_rule_104 rfl ?_
                refine am_callV (ac' := 0) (as' := 0) (xs := [_, _]) dM_rule_106 lkM_84 (by first | rfl | exact sk8 (by omega) | exact sk9 (by omega) | exact sk10 (by omega) | exact sk11 (by omega)) rfl rfl rfl rfl (Nat.le_of_ble_eq_true rfl) rfl rfl (cM_splat (by omega) e4 (fun cb => ?_) (fun cb => ?_))
                · refine am_if_eq_F (tgt := 119) dM_rule_109 (by decide) (by decide) ?_
                  refine am_aload_n (i := 0) dM_rule_112 rfl rfl ?_
                  refine am_getf dM_rule_113 flM_35 (by first | rfl | exact sk8 (by omega) | exact sk9 (by omega) | exact sk10 (by omega) | exact sk11 (by omega)) rfl ?_
                  refine am_iload_n (i := 1) dM_rule_116 rfl rfl ?_
                  refine am_iload_n (i := 2) dM_rule_117 rfl rfl ?_
                  refine am_iast' dM_rule_118 (by first | rfl | exact sk8 (by omega) | exact sk9 (by omega) | exact sk10 (by omega) | exact sk11 (by omega)) rfl (by first | omega | assumption | decide) (by decide) (by decide) (by first | exact wm_kd (by omega) | exact wm_kh (by omega) | exact wm_fi (by omega) | exact wm_fh (by omega) | exact wm_se (by omega) | exact wm_sh (by omega) | exact wm_np (by omega) | exact wm_ph (by omega) | exact wm_nq (by omega) | exact wm_qh (by omega) | exact wm_ro | exact wm_co | exact wm_mm | exact wm_sd | exact wm_pa | exact wm_ce | exact wm_wd | exact wm_ud | exact wm_vn | exact wm_sm) ?_
                  refine am_iload (i := 4) dM_rule_119 rfl ?_
                  refine am_bipush (v := 10) dM_rule_121 (by decide) ?_
                  refine am_icmp_lt_T (tgt := 142) dM_rule_123 (by decide) (by rw [c73]; decide) ?_
                  refine am_aload_n (i := 0) dM_rule_142 rfl rfl ?_
                  refine am_getf dM_rule_143 flM_35 (by first | rfl | exact sk8 (by omega) | exact sk9 (by omega) | exact sk10 (by omega) | exact sk11 (by omega)) rfl ?_
                  refine am_iload_n (i := 1) dM_rule_146 rfl rfl ?_
                  refine am_iald dM_rule_147 (by first | rfl | exact sk8 (by omega) | exact sk9 (by omega) | exact sk10 (by omega) | exact sk11 (by omega)) rfl (by first | omega | assumption | decide) (by decide) (by decide) (by first | exact congrArg am_I (upd_eq _ _ _) | rfl) ?_
                  refine am_iload_n (i := 1) dM_rule_148 rfl rfl ?_
                  refine am_icmp_eq_F (tgt := 154) dM_rule_149 (by decide) (q_arg_ne b3 n3 (by omega)) ?_
                  refine am_iconst (v := 2) dM_rule_152 (by decide) ?_
                  refine am_iret (st := []) rfl rfl dM_rule_153 ?_
                  have co : ¬ q_only P v := by grind
                  have en : q_neut P v = P v 3 := by unfold q_neut; grind
                  have hr := ru2 co (by rw [en]; exact n3)
                  exact k _ _ _ (by rw [hr]; rfl) (q_tab0 (Or.inr (Or.inl hr))).symm (by rw [q_dir2 hr, en, if_neg n3])
                · refine am_if_eq_T (tgt := 119) dM_rule_109 (by decide) (by decide) ?_
                  refine am_iload (i := 4) dM_rule_119 rfl ?_
                  refine am_bipush (v := 10) dM_rule_121 (by decide) ?_
                  refine am_icmp_lt_T (tgt := 142) dM_rule_123 (by decide) (by rw [c73]; decide) ?_
                  refine am_aload_n (i := 0) dM_rule_142 rfl rfl ?_
                  refine am_getf dM_rule_143 flM_35 (by first | rfl | exact sk8 (by omega) | exact sk9 (by omega) | exact sk10 (by omega) | exact sk11 (by omega)) rfl ?_
                  refine am_iload_n (i := 1) dM_rule_146 rfl rfl ?_
                  refine am_iald dM_rule_147 (by first | rfl | exact sk8 (by omega) | exact sk9 (by omega) | exact sk10 (by omega) | exact sk11 (by omega)) rfl (by first | omega | assumption | decide) (by decide) (by decide) (by first | exact congrArg am_I (upd_eq _ _ _) | rfl) ?_
                  refine am_iload_n (i := 1) dM_rule_148 rfl rfl ?_
                  refine am_icmp_eq_T (tgt := 154) dM_rule_149 (by decide) hst ?_
                  refine am_iload (i := 4) dM_rule_154 rfl ?_
                  refine am_iconst (v := 4) dM_rule_156 (by decide) ?_
                  refine am_icmp_ne_F (tgt := 186) dM_rule_157 (by decide) c73 ?_
                  have l4 : ¬ P v 4 = -1 := b6 (by grind)
                  obtain ⟨x4, y4⟩ := b4.ix l4 (by omega)
                  refine am_aload_n (i := 0) dM_rule_160 rfl rfl ?_
                  refine am_iload_n (i := 2) dM_rule_161 rfl rfl ?_
                  refine am_iconst (v := 0) dM_rule_162 (by decide) ?_
                  refine am_callV (ac' := 0) (as' := 0) (xs := [_, _]) dM_rule_163 lkM_84 (by first | rfl | exact sk8 (by omega) | exact sk9 (by omega) | exact sk10 (by omega) | exact sk11 (by omega)) rfl rfl rfl rfl (Nat.le_of_ble_eq_true rfl) rfl rfl (cM_splat (by omega) e3 (fun cx => ?_) (fun cx => ?_))
                  · refine am_if_ne_T (tgt := 178) dM_rule_166 (by decide) (by decide) ?_
                    refine am_aload_n (i := 0) dM_rule_178 rfl rfl ?_
                    refine am_iload_n (i := 1) dM_rule_179 rfl rfl ?_
                    refine am_iconst (v := 0) dM_rule_180 (by decide) ?_
                    refine am_callV (ac' := 0) (as' := 0) (xs := [_, _]) dM_rule_181 lkM_80 (by first | rfl | exact sk8 (by omega) | exact sk9 (by omega) | exact sk10 (by omega) | exact sk11 (by omega)) rfl rfl rfl rfl (Nat.le_of_ble_eq_true rfl) rfl rfl (cM_become (by omega) ?_)
                    refine am_iconst (v := 3) dM_rule_184 (by decide) ?_
                    refine am_iret (st := []) rfl rfl dM_rule_185 ?_
                    have co : ¬ q_only P v := by grind
                    have en : q_neut P v = -1 := by unfold q_neut; grind
                    have hr := ru3 co en (by grind)
                    exact k _ _ _ (by rw [hr]; rfl) (by unfold q_tab; rw [if_neg (by omega), if_pos hr]) (by rw [q_dir0 (Or.inr (Or.inr hr)), if_pos rfl])
                  · refine am_if_ne_F (tgt := 178) dM_rule_166 (by decide) (by decide) ?_
                    refine am_aload_n (i := 0) dM_rule_169 rfl rfl ?_
                    refine am_iload_n (i := 3) dM_rule_170 rfl rfl ?_
                    refine am_iconst (v := 0) dM_rule_171 (by decide) ?_
                    refine am_callV (ac' := 0) (as' := 0) (xs := [_, _]) dM_rule_172 lkM_84 (by first | rfl | exact sk8 (by omega) | exact sk9 (by omega) | exact sk10 (by omega) | exact sk11 (by omega)) rfl rfl rfl rfl (Nat.le_of_ble_eq_true rfl) rfl rfl (cM_splat (by omega) y4 (fun cy => ?_) (fun cy => ?_))
                    · refine am_if_eq_F (tgt := 186) dM_rule_175 (by decide) (by decide) ?_
                      refine am_aload_n (i := 0) dM_rule_178 rfl rfl ?_
                      refine am_iload_n (i := 1) dM_rule_179 rfl rfl ?_
                      refine am_iconst (v := 0) dM_rule_180 (by decide) ?_
                      refine am_callV (ac' := 0) (as' := 0) (xs := [_, _]) dM_rule_181 lkM_80 (by first | rfl | exact sk8 (by omega) | exact sk9 (by omega) | exact sk10 (by omega) | exact sk11 (by omega)) rfl rfl rfl rfl (Nat.le_of_ble_eq_true rfl) rfl rfl (cM_become (by omega) ?_)
                      refine am_iconst (v := 3) dM_rule_184 (by decide) ?_
                      refine am_iret (st := []) rfl rfl dM_rule_185 ?_
                      have co : ¬ q_only P v := by grind
                      have en : q_neut P v = -1 := by unfold q_neut; grind
                      have hr := ru3 co en (by grind)
                      exact k _ _ _ (by rw [hr]; rfl) (by unfold q_tab; rw [if_neg (by omega), if_pos hr]) (by rw [q_dir0 (Or.inr (Or.inr hr)), if_pos rfl])
                    · refine am_if_eq_T (tgt := 186) dM_rule_175 (by decide) (by decide) ?_
                      refine am_iload (i := 4) dM_rule_186 rfl ?_
                      refine am_iconst (v := 5) dM_rule_188 (by decide) ?_
                      refine am_icmp_ne_T (tgt := 206) dM_rule_189 (by decide) (by rw [c73]; decide) ?_
                      refine am_iload (i := 4) dM_rule_206 rfl ?_
                      refine am_aload_n (i := 0) dM_rule_208 rfl rfl ?_
                      refine am_getf dM_rule_209 flM_7 (by first | rfl | exact sk8 (by omega) | exact sk9 (by omega) | exact sk10 (by omega) | exact sk11 (by omega)) rfl ?_
                      refine am_iload_n (i := 2) dM_rule_212 rfl rfl ?_
                      refine am_iald dM_rule_213 (by first | rfl | exact sk8 (by omega) | exact sk9 (by omega) | exact sk10 (by omega) | exact sk11 (by omega)) e3 (by first | omega | assumption | decide) (by decide) (by decide) (by first | exact congrArg am_I (mkd_lo (by omega)) | exact congrArg am_I (mkd_hi (by omega)) | rfl) ?_
                      refine am_icmp_ne (tgt := 238) dM_rule_214 (by decide) (fun c214 => ?_) (fun c214 => ?_)
                      · refine am_iconst (v := 0) dM_rule_238 (by decide) ?_
                        refine am_iret (st := []) rfl rfl dM_rule_239 ?_
                        have co : ¬ q_only P v := by grind
                        have en : q_neut P v = -1 := by unfold q_neut; grind
                        have z3 : ¬ q_z3 P v := by grind
                        have z4 : ¬ q_z4 P v := by grind
                        have hr := ru0 co en z3 z4 (by unfold q_twi; grind)
                        exact k _ _ _ (by rw [hr]; rfl) (q_tab0 (Or.inl hr)).symm (by rw [q_dir0 (Or.inl hr), if_pos rfl])
                      · refine am_iload (i := 4) dM_rule_217 rfl ?_
                        refine am_bipush (v := 6) dM_rule_219 (by decide) ?_
                        refine am_icmp_eq_F (tgt := 240) dM_rule_221 (by decide) (by rw [c73]; decide) ?_
                        refine am_iload (i := 4) dM_rule_224 rfl ?_
                        refine am_bipush (v := 7) dM_rule_226 (by decide) ?_
                        refine am_icmp_eq_F (tgt := 240) dM_rule_228 (by decide) (by rw [c73]; decide) ?_
                        refine am_iload (i := 4) dM_rule_231 rfl ?_
                        refine am_bipush (v := 11) dM_rule_233 (by decide) ?_
                        refine am_icmp_eq_F (tgt := 240) dM_rule_235 (by decide) (by rw [c73]; decide) ?_
                        refine am_iconst (v := 0) dM_rule_238 (by decide) ?_
                        refine am_iret (st := []) rfl rfl dM_rule_239 ?_
                        have co : ¬ q_only P v := by grind
                        have en : q_neut P v = -1 := by unfold q_neut; grind
                        have z3 : ¬ q_z3 P v := by grind
                        have z4 : ¬ q_z4 P v := by grind
                        have hr := ru0 co en z3 z4 (by unfold q_twi; grind)
                        exact k _ _ _ (by rw [hr]; rfl) (q_tab0 (Or.inl hr)).symm (by rw [q_dir0 (Or.inl hr), if_pos rfl])
        · refine am_aload_n (i := 0) dM_rule_52 rfl rfl ?_
          refine am_iload_n (i := 1) dM_rule_53 rfl rfl ?_
          refine am_aload_n (i := 0) dM_rule_54 rfl rfl ?_
          refine am_iload_n (i := 1) dM_rule_55 rfl rfl ?_
          refine am_callV (ac' := 0) (as' := 0) (xs := [_]) dM_rule_56 lkM_76 (by first | rfl | exact sk8 (by omega) | exact sk9 (by omega) | exact sk10 (by omega) | exact sk11 (by omega)) rfl rfl rfl rfl (Nat.le_of_ble_eq_true rfl) rfl rfl (cM_folded (by omega) b3 b4 n3 (fun xf ef => ?_))
          refine am_callV (ac' := 0) (as' := 0) (xs := [_, _]) dM_rule_59 lkM_80 (by first | rfl | exact sk8 (by omega) | exact sk9 (by omega) | exact sk10 (by omega) | exact sk11 (by omega)) rfl rfl rfl rfl (Nat.le_of_ble_eq_true rfl) rfl rfl (cM_become (by omega) ?_)
          refine am_iconst (v := 1) dM_rule_62 (by decide) ?_
          refine am_iret (st := []) rfl rfl dM_rule_63 ?_
          have co : q_only P v := ⟨n3, c35, Or.inr c49⟩
          have hr := ru1 co
          exact k _ _ _ (by rw [hr]; rfl) (by unfold q_tab; rw [if_pos hr, ef]) (by rw [q_dir0 (Or.inr (Or.inl hr)), if_pos rfl])
  · refine am_iconst (v := 0) dM_rule_26 (by decide) ?_
    refine am_iret (st := []) rfl rfl dM_rule_27 ?_
    have n3 : P v 3 = -1 := (q_arg_neg b3 (by omega)).2.mp c23
    have hr := ru_leaf n3 (fun q => b5 q n3)
    exact k _ _ _ (by rw [hr]; rfl) (q_tab0 (Or.inl hr)).symm (by rw [q_dir0 (Or.inl hr), if_pos rfl])
