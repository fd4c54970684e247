/-! ===== the reference: one value, all values ===== -/
theorem q_345 {x : Int32} (h : q_kind x) (h3 : ¬ x < 3) (h5 : ¬ 5 < x) : x = 3 ∨ x = 4 ∨ x = 5 := by
  obtain ⟨κ, a, e⟩ := h
  have g3 : ¬ κ < 3 := fun q => h3 (by rw [e]; exact (nI_lt' (b := 3) (by omega) (by omega)).mpr q)
  have g5 : ¬ 5 < κ := fun q => h5 (by rw [e]; exact (nI_lt' (a := 5) (by omega) (by omega)).mpr q)
  rw [e]
  have : κ = 3 ∨ κ = 4 ∨ κ = 5 := by omega
  rcases this with q | q | q
  · exact Or.inl (by rw [q]; rfl)
  · exact Or.inr (Or.inl (by rw [q]; rfl))
  · exact Or.inr (Or.inr (by rw [q]; rfl))
theorem q_like_c {P : Nat → Nat → Int32} {v u : Nat} (h : q_like P v u) : q_like P u v := ⟨h.1.symm, h.2.1.symm, h.2.2.1.symm, h.2.2.2.1.symm, h.2.2.2.2.1.symm, h.2.2.2.2.2.1.symm, h.2.2.2.2.2.2.symm⟩
theorem upd_self {f : Nat → Int32} {v : Nat} {x : Int32} (h : f v = x) : upd f v x = f := by
  funext u
  unfold upd
  grind
theorem upd_upd {f : Nat → Int32} {v : Nat} {x y : Int32} : upd (upd f v x) v y = upd f v y := by
  funext u
  unfold upd
  grind
theorem nI_0le {r : Nat} (h : r ≤ 5) : nI r ≤ 0 ↔ r = 0 := by
  rw [show (0 : Int32) = nI 0 from rfl, nI_le' (by omega) (by omega)]
  omega
set_option maxRecDepth 100000 in
set_option maxHeartbeats 4000000 in
theorem lpM_scan {g : am_G} {d : Nat} {Q : Option am_V → am_H → Prop} {X : Nat → Nat → Nat → am_V} {A P : Nat → Nat → Int32} {st mk pa ce wd us : Nat → Int32} {si : Int32} {n : Nat} {v : Nat} (hn : n ≤ 28) (hv : v < n) {o : Option am_V} (K : Q none (hm X (ym A P (upd st v (nI (q_al st P v))) mk pa ce wd (if q_al st P v = v then us else upd us 6 (us 6 + 1)) (nI n) si))) : ∀ (i : Nat), i ≤ v → ∀ x : Int32, x = nI i - 1 → am_T g mM_simplifyOne (d + 2) 0 0 148 [some (am_O 20 0), some (am_I (nI v)), o, some (am_I x)] [] (hm X (ym A P (upd st v (nI (q_alr st P v (v - i) i))) mk pa ce wd us (nI n) si)) Q := by
  intro i
  induction i with
  | zero =>
    intro hi x hx
    show am_T g mM_simplifyOne (d + 2) 0 0 148 [some (am_O 20 0), some (am_I (nI v)), o, some (am_I x)] [] (hm X (ym A P (upd st v (nI (q_al st P v))) mk pa ce wd us (nI n) si)) Q
    refine am_iload_n (i := 3) dM_simplifyOne_148 rfl rfl ?_
    refine am_if_lt_T (tgt := 184) dM_simplifyOne_149 (by decide) (by rw [hx]; decide) ?_
    have hq : q_al st P v ≤ v := by rcases q_al_or st P v with q | ⟨q, -⟩ <;> omega
    refine am_aload_n (i := 0) dM_simplifyOne_184 rfl rfl ?_
    refine am_getf dM_simplifyOne_185 flM_35 (by first | rfl | exact sk8 (by omega) | exact sk9 (by omega) | exact sk10 (by omega) | exact sk11 (by omega)) rfl ?_
    refine am_iload_n (i := 1) dM_simplifyOne_188 rfl rfl ?_
    refine am_iald dM_simplifyOne_189 (by first | rfl | exact sk8 (by omega) | exact sk9 (by omega) | exact sk10 (by omega) | exact sk11 (by omega)) rfl (by first | omega | assumption | decide) (by decide) (by decide) (congrArg am_I (upd_eq _ _ _)) ?_
    refine am_iload_n (i := 1) dM_simplifyOne_190 rfl rfl ?_
    refine am_icmp_eq (tgt := 205) dM_simplifyOne_191 (by decide) (fun c191 => ?_) (fun c191 => ?_)
    · refine am_vret (st := []) rfl dM_simplifyOne_205 ?_
      rw [if_pos (nI_inj (by omega) (by omega) c191)] at K
      exact K
    · refine am_aload_n (i := 0) dM_simplifyOne_194 rfl rfl ?_
      refine am_getf dM_simplifyOne_195 flM_47 (by first | rfl | exact sk8 (by omega) | exact sk9 (by omega) | exact sk10 (by omega) | exact sk11 (by omega)) rfl ?_
      refine am_bipush (v := 6) dM_simplifyOne_198 (by decide) ?_
      refine am_dup2 dM_simplifyOne_200 rfl rfl ?_
      refine am_iald dM_simplifyOne_201 (by first | rfl | exact sk8 (by omega) | exact sk9 (by omega) | exact sk10 (by omega) | exact sk11 (by omega)) (show (6 : Int32) = nI 6 from rfl) (by first | omega | assumption | decide) (by decide) (by decide) (by first | exact congrArg am_I (mkd_lo (by omega)) | exact congrArg am_I (mkd_hi (by omega)) | rfl) ?_
      refine am_iconst (v := 1) dM_simplifyOne_202 (by decide) ?_
      refine am_iadd dM_simplifyOne_203 ?_
      refine am_iast' dM_simplifyOne_204 (by first | rfl | exact sk8 (by omega) | exact sk9 (by omega) | exact sk10 (by omega) | exact sk11 (by omega)) (show (6 : Int32) = nI 6 from rfl) (by first | omega | assumption | decide) (by decide) (by decide) (by first | exact wm_kd (by omega) | exact wm_kh (by omega) | exact wm_fi (by omega) | exact wm_fh (by omega) | exact wm_se (by omega) | exact wm_sh (by omega) | exact wm_np (by omega) | exact wm_ph (by omega) | exact wm_nq (by omega) | exact wm_qh (by omega) | exact wm_ro | exact wm_co | exact wm_mm | exact wm_sd | exact wm_pa | exact wm_ce | exact wm_wd | exact wm_ud | exact wm_vn | exact wm_sm) ?_
      refine am_vret (st := []) rfl dM_simplifyOne_205 ?_
      rw [if_neg (fun q => c191 (congrArg nI q))] at K
      exact K
  | succ i ih =>
    intro hi x hx
    have hxi : x = nI i := by rw [hx, nI_pred]
    subst hxi
    refine am_iload_n (i := 3) dM_simplifyOne_148 rfl rfl ?_
    refine am_if_lt_F (tgt := 184) dM_simplifyOne_149 (by decide) (nI_pos (by omega)) ?_
    refine am_aload_n (i := 0) dM_simplifyOne_152 rfl rfl ?_
    refine am_getf dM_simplifyOne_153 flM_35 (by first | rfl | exact sk8 (by omega) | exact sk9 (by omega) | exact sk10 (by omega) | exact sk11 (by omega)) rfl ?_
    refine am_iload_n (i := 3) dM_simplifyOne_156 rfl rfl ?_
    refine am_iald dM_simplifyOne_157 (by first | rfl | exact sk8 (by omega) | exact sk9 (by omega) | exact sk10 (by omega) | exact sk11 (by omega)) rfl (by first | omega | assumption | decide) (by decide) (by decide) (congrArg am_I (upd_ne (show i ≠ v by omega))) ?_
    refine am_iload_n (i := 3) dM_simplifyOne_158 rfl rfl ?_
    refine am_icmp_ne (tgt := 178) dM_simplifyOne_159 (by decide) (fun c159 => ?_) (fun c159 => ?_)
    · refine am_iinc dM_simplifyOne_178 rfl (nI_dec _) (by decide) ?_
      refine am_goto (tgt := 148) dM_simplifyOne_181 (by decide) ?_
      refine am_hT (h' := (hm X (ym A P (upd st v (nI (q_alr st P v (v - i) i))) mk pa ce wd us (nI n) si))) ?_ (ih (by omega) _ rfl)
      have es : q_alr st P v (v - i) i = q_alr st P v (v - (i + 1)) (i + 1) := by
        rw [show v - i = v - (i + 1) + 1 by omega]
        conv => lhs; unfold q_alr
        rw [if_neg (fun q => by first | exact c159 q.1 | exact cs (q_like_c q.2))]
      rw [es]
    · refine am_aload_n (i := 0) dM_simplifyOne_162 rfl rfl ?_
      refine am_iload_n (i := 1) dM_simplifyOne_163 rfl rfl ?_
      refine am_iload_n (i := 3) dM_simplifyOne_164 rfl rfl ?_
      refine am_callV (ac' := 0) (as' := 0) (xs := [_, _]) dM_simplifyOne_165 lkM_94 (by first | rfl | exact sk8 (by omega) | exact sk9 (by omega) | exact sk10 (by omega) | exact sk11 (by omega)) rfl rfl rfl rfl (Nat.le_of_ble_eq_true rfl) rfl rfl (cM_alike (by omega) (by omega) (fun cs => ?_) (fun cs => ?_))
      · refine am_if_eq_F (tgt := 178) dM_simplifyOne_168 (by decide) (by decide) ?_
        refine am_aload_n (i := 0) dM_simplifyOne_171 rfl rfl ?_
        refine am_getf dM_simplifyOne_172 flM_35 (by first | rfl | exact sk8 (by omega) | exact sk9 (by omega) | exact sk10 (by omega) | exact sk11 (by omega)) rfl ?_
        refine am_iload_n (i := 1) dM_simplifyOne_175 rfl rfl ?_
        refine am_iload_n (i := 3) dM_simplifyOne_176 rfl rfl ?_
        refine am_iast' dM_simplifyOne_177 (by first | rfl | exact sk8 (by omega) | exact sk9 (by omega) | exact sk10 (by omega) | exact sk11 (by omega)) rfl (by first | omega | assumption | decide) (by decide) (by decide) (by first | exact wm_kd (by omega) | exact wm_kh (by omega) | exact wm_fi (by omega) | exact wm_fh (by omega) | exact wm_se (by omega) | exact wm_sh (by omega) | exact wm_np (by omega) | exact wm_ph (by omega) | exact wm_nq (by omega) | exact wm_qh (by omega) | exact wm_ro | exact wm_co | exact wm_mm | exact wm_sd | exact wm_pa | exact wm_ce | exact wm_wd | exact wm_ud | exact wm_vn | exact wm_sm) ?_
        refine am_iinc dM_simplifyOne_178 rfl (nI_dec _) (by decide) ?_
        refine am_goto (tgt := 148) dM_simplifyOne_181 (by decide) ?_
        refine am_hT (h' := (hm X (ym A P (upd st v (nI (q_alr st P v (v - i) i))) mk pa ce wd us (nI n) si))) ?_ (ih (by omega) _ rfl)
        have es : q_alr st P v (v - i) i = i := by
          rw [show v - i = v - (i + 1) + 1 by omega]
          conv => lhs; unfold q_alr
          rw [if_pos ⟨by grind, q_like_c cs⟩]
        rw [es]
        rw [upd_upd]
      · refine am_if_eq_T (tgt := 178) dM_simplifyOne_168 (by decide) (by decide) ?_
        refine am_iinc dM_simplifyOne_178 rfl (nI_dec _) (by decide) ?_
        refine am_goto (tgt := 148) dM_simplifyOne_181 (by decide) ?_
        refine am_hT (h' := (hm X (ym A P (upd st v (nI (q_alr st P v (v - i) i))) mk pa ce wd us (nI n) si))) ?_ (ih (by omega) _ rfl)
        have es : q_alr st P v (v - i) i = q_alr st P v (v - (i + 1)) (i + 1) := by
          rw [show v - i = v - (i + 1) + 1 by omega]
          conv => lhs; unfold q_alr
          rw [if_neg (fun q => by first | exact c159 q.1 | exact cs (q_like_c q.2))]
        rw [es]
set_option maxRecDepth 100000 in
set_option maxHeartbeats 4000000 in
theorem lpM_onea {g : am_G} {d : Nat} {Q : Option am_V → am_H → Prop} {X : Nat → Nat → Nat → am_V} {A P : Nat → Nat → Int32} {st mk pa ce wd us : Nat → Int32} {si : Int32} {n : Nat} {v : Nat} (hn : n ≤ 28) (hv : v < n) (hst : st v = nI v) (hd : q_dir P v = -1) {o : Option am_V} (K : Q none (hm X (ym A (q_tab P v) (upd st v (q_std st P v)) mk pa ce wd (q_use st P us v) (nI n) si))) : am_T g mM_simplifyOne (d + 2) 0 0 119 [some (am_O 20 0), some (am_I (nI v)), some (am_I (nI (q_rul P v))), o] [] (hm X (ym A (q_tab P v) st mk pa ce wd us (nI n) si)) Q := by
  refine am_iload_n (i := 2) dM_simplifyOne_119 rfl rfl ?_
  refine am_if_le (tgt := 133) dM_simplifyOne_120 (by decide) (fun c120 => ?_) (fun c120 => ?_)
  · refine am_aload_n (i := 0) dM_simplifyOne_133 rfl rfl ?_
    refine am_getf dM_simplifyOne_134 flM_35 (by first | rfl | exact sk8 (by omega) | exact sk9 (by omega) | exact sk10 (by omega) | exact sk11 (by omega)) rfl ?_
    refine am_iload_n (i := 1) dM_simplifyOne_137 rfl rfl ?_
    refine am_iald dM_simplifyOne_138 (by first | rfl | exact sk8 (by omega) | exact sk9 (by omega) | exact sk10 (by omega) | exact sk11 (by omega)) rfl (by first | omega | assumption | decide) (by decide) (by decide) (by first | exact congrArg am_I (mkd_lo (by omega)) | exact congrArg am_I (mkd_hi (by omega)) | rfl) ?_
    refine am_iload_n (i := 1) dM_simplifyOne_139 rfl rfl ?_
    refine am_icmp_eq_T (tgt := 144) dM_simplifyOne_140 (by decide) hst ?_
    refine am_iload_n (i := 1) dM_simplifyOne_144 rfl rfl ?_
    refine am_iconst (v := 1) dM_simplifyOne_145 (by decide) ?_
    refine am_isub dM_simplifyOne_146 ?_
    refine am_istore_n (i := 3) dM_simplifyOne_147 rfl (by decide) ?_
    have eu : q_us1 P us v = us := by
      unfold q_us1
      rw [if_pos ((nI_0le (q_rul_le P v)).mp c120)]
    have es : q_std st P v = nI (q_al st (q_tab P v) v) := by
      unfold q_std
      rw [if_pos hd]
    have ez : q_use st P us v = if q_al st (q_tab P v) v = v then q_us1 P us v else upd (q_us1 P us v) 6 (q_us1 P us v 6 + 1) := by
      unfold q_use
      by_cases h : q_al st (q_tab P v) v = v
      · rw [if_neg (fun q => q.2 h), if_pos h]
      · rw [if_pos ⟨hd, h⟩, if_neg h]
    rw [es, ez, eu] at K
    have e0 : upd st v (nI (q_alr st (q_tab P v) v (v - v) v)) = st := by
      rw [Nat.sub_self]
      exact upd_self hst
    refine am_hT (h' := (hm X (ym A (q_tab P v) (upd st v (nI (q_alr st (q_tab P v) v (v - v) v))) mk pa ce wd us (nI n) si))) (by rw [e0]) (lpM_scan hn hv K v (Nat.le_refl _) _ rfl)
  · refine am_aload_n (i := 0) dM_simplifyOne_123 rfl rfl ?_
    refine am_getf dM_simplifyOne_124 flM_47 (by first | rfl | exact sk8 (by omega) | exact sk9 (by omega) | exact sk10 (by omega) | exact sk11 (by omega)) rfl ?_
    refine am_iload_n (i := 2) dM_simplifyOne_127 rfl rfl ?_
    refine am_dup2 dM_simplifyOne_128 rfl rfl ?_
    refine am_iald dM_simplifyOne_129 (by first | rfl | exact sk8 (by omega) | exact sk9 (by omega) | exact sk10 (by omega) | exact sk11 (by omega)) rfl (by have := q_rul_le P v; omega) (by decide) (by decide) (by first | exact congrArg am_I (mkd_lo (by omega)) | exact congrArg am_I (mkd_hi (by omega)) | rfl) ?_
    refine am_iconst (v := 1) dM_simplifyOne_130 (by decide) ?_
    refine am_iadd dM_simplifyOne_131 ?_
    refine am_iast' dM_simplifyOne_132 (by first | rfl | exact sk8 (by omega) | exact sk9 (by omega) | exact sk10 (by omega) | exact sk11 (by omega)) rfl (by have := q_rul_le P v; omega) (by decide) (by decide) (by first | exact wm_kd (by omega) | exact wm_kh (by omega) | exact wm_fi (by omega) | exact wm_fh (by omega) | exact wm_se (by omega) | exact wm_sh (by omega) | exact wm_np (by omega) | exact wm_ph (by omega) | exact wm_nq (by omega) | exact wm_qh (by omega) | exact wm_ro | exact wm_co | exact wm_mm | exact wm_sd | exact wm_pa | exact wm_ce | exact wm_wd | exact wm_ud | exact wm_vn | exact wm_sm) ?_
    refine am_aload_n (i := 0) dM_simplifyOne_133 rfl rfl ?_
    refine am_getf dM_simplifyOne_134 flM_35 (by first | rfl | exact sk8 (by omega) | exact sk9 (by omega) | exact sk10 (by omega) | exact sk11 (by omega)) rfl ?_
    refine am_iload_n (i := 1) dM_simplifyOne_137 rfl rfl ?_
    refine am_iald dM_simplifyOne_138 (by first | rfl | exact sk8 (by omega) | exact sk9 (by omega) | exact sk10 (by omega) | exact sk11 (by omega)) rfl (by first | omega | assumption | decide) (by decide) (by decide) (by first | exact congrArg am_I (mkd_lo (by omega)) | exact congrArg am_I (mkd_hi (by omega)) | rfl) ?_
    refine am_iload_n (i := 1) dM_simplifyOne_139 rfl rfl ?_
    refine am_icmp_eq_T (tgt := 144) dM_simplifyOne_140 (by decide) hst ?_
    refine am_iload_n (i := 1) dM_simplifyOne_144 rfl rfl ?_
    refine am_iconst (v := 1) dM_simplifyOne_145 (by decide) ?_
    refine am_isub dM_simplifyOne_146 ?_
    refine am_istore_n (i := 3) dM_simplifyOne_147 rfl (by decide) ?_
    have eu : q_us1 P us v = upd us (q_rul P v) (us (q_rul P v) + 1) := by
      unfold q_us1
      rw [if_neg (fun q => c120 ((nI_0le (q_rul_le P v)).mpr q))]
    have es : q_std st P v = nI (q_al st (q_tab P v) v) := by
      unfold q_std
      rw [if_pos hd]
    have ez : q_use st P us v = if q_al st (q_tab P v) v = v then q_us1 P us v else upd (q_us1 P us v) 6 (q_us1 P us v 6 + 1) := by
      unfold q_use
      by_cases h : q_al st (q_tab P v) v = v
      · rw [if_neg (fun q => q.2 h), if_pos h]
      · rw [if_pos ⟨hd, h⟩, if_neg h]
    rw [es, ez, eu] at K
    have e0 : upd st v (nI (q_alr st (q_tab P v) v (v - v) v)) = st := by
      rw [Nat.sub_self]
      exact upd_self hst
    refine am_hT (h' := (hm X (ym A (q_tab P v) (upd st v (nI (q_alr st (q_tab P v) v (v - v) v))) mk pa ce wd (upd us (q_rul P v) (us (q_rul P v) + 1)) (nI n) si))) (by rw [e0]) (lpM_scan hn hv K v (Nat.le_refl _) _ rfl)
set_option maxRecDepth 100000 in
set_option maxHeartbeats 4000000 in
theorem lpM_oneb {g : am_G} {d : Nat} {Q : Option am_V → am_H → Prop} {X : Nat → Nat → Nat → am_V} {A P : Nat → Nat → Int32} {st mk pa ce wd us : Nat → Int32} {si : Int32} {n : Nat} {v : Nat} (hn : n ≤ 28) (hv : v < n) (hst : st v = nI v) (hd : ¬ q_dir P v = -1) (hd2 : ¬ q_dir P v = nI v) {o : Option am_V} (K : Q none (hm X (ym A (q_tab P v) (upd st v (q_std st P v)) mk pa ce wd (q_use st P us v) (nI n) si))) : am_T g mM_simplifyOne (d + 2) 0 0 119 [some (am_O 20 0), some (am_I (nI v)), some (am_I (nI (q_rul P v))), o] [] (hm X (ym A (q_tab P v) (upd st v (q_dir P v)) mk pa ce wd us (nI n) si)) Q := by
  refine am_iload_n (i := 2) dM_simplifyOne_119 rfl rfl ?_
  refine am_if_le (tgt := 133) dM_simplifyOne_120 (by decide) (fun c120 => ?_) (fun c120 => ?_)
  · refine am_aload_n (i := 0) dM_simplifyOne_133 rfl rfl ?_
    refine am_getf dM_simplifyOne_134 flM_35 (by first | rfl | exact sk8 (by omega) | exact sk9 (by omega) | exact sk10 (by omega) | exact sk11 (by omega)) rfl ?_
    refine am_iload_n (i := 1) dM_simplifyOne_137 rfl rfl ?_
    refine am_iald dM_simplifyOne_138 (by first | rfl | exact sk8 (by omega) | exact sk9 (by omega) | exact sk10 (by omega) | exact sk11 (by omega)) rfl (by first | omega | assumption | decide) (by decide) (by decide) (congrArg am_I (upd_eq _ _ _)) ?_
    refine am_iload_n (i := 1) dM_simplifyOne_139 rfl rfl ?_
    refine am_icmp_eq_F (tgt := 144) dM_simplifyOne_140 (by decide) hd2 ?_
    refine am_vret (st := []) rfl dM_simplifyOne_143 ?_
    have eu : q_us1 P us v = us := by
      unfold q_us1
      rw [if_pos ((nI_0le (q_rul_le P v)).mp c120)]
    have es : q_std st P v = q_dir P v := by
      unfold q_std
      rw [if_neg hd]
    have ez : q_use st P us v = q_us1 P us v := by
      unfold q_use
      rw [if_neg (fun q => hd q.1)]
    rw [es, ez, eu] at K
    exact K
  · refine am_aload_n (i := 0) dM_simplifyOne_123 rfl rfl ?_
    refine am_getf dM_simplifyOne_124 flM_47 (by first | rfl | exact sk8 (by omega) | exact sk9 (by omega) | exact sk10 (by omega) | exact sk11 (by omega)) rfl ?_
    refine am_iload_n (i := 2) dM_simplifyOne_127 rfl rfl ?_
    refine am_dup2 dM_simplifyOne_128 rfl rfl ?_
    refine am_iald dM_simplifyOne_129 (by first | rfl | exact sk8 (by omega) | exact sk9 (by omega) | exact sk10 (by omega) | exact sk11 (by omega)) rfl (by have := q_rul_le P v; omega) (by decide) (by decide) (by first | exact congrArg am_I (mkd_lo (by omega)) | exact congrArg am_I (mkd_hi (by omega)) | rfl) ?_
    refine am_iconst (v := 1) dM_simplifyOne_130 (by decide) ?_
    refine am_iadd dM_simplifyOne_131 ?_
    refine am_iast' dM_simplifyOne_132 (by first | rfl | exact sk8 (by omega) | exact sk9 (by omega) | exact sk10 (by omega) | exact sk11 (by omega)) rfl (by have := q_rul_le P v; omega) (by decide) (by decide) (by first | exact wm_kd (by omega) | exact wm_kh (by omega) | exact wm_fi (by omega) | exact wm_fh (by omega) | exact wm_se (by omega) | exact wm_sh (by omega) | exact wm_np (by omega) | exact wm_ph (by omega) | exact wm_nq (by omega) | exact wm_qh (by omega) | exact wm_ro | exact wm_co | exact wm_mm | exact wm_sd | exact wm_pa | exact wm_ce | exact wm_wd | exact wm_ud | exact wm_vn | exact wm_sm) ?_
    refine am_aload_n (i := 0) dM_simplifyOne_133 rfl rfl ?_
    refine am_getf dM_simplifyOne_134 flM_35 (by first | rfl | exact sk8 (by omega) | exact sk9 (by omega) | exact sk10 (by omega) | exact sk11 (by omega)) rfl ?_
    refine am_iload_n (i := 1) dM_simplifyOne_137 rfl rfl ?_
    refine am_iald dM_simplifyOne_138 (by first | rfl | exact sk8 (by omega) | exact sk9 (by omega) | exact sk10 (by omega) | exact sk11 (by omega)) rfl (by first | omega | assumption | decide) (by decide) (by decide) (congrArg am_I (upd_eq _ _ _)) ?_
    refine am_iload_n (i := 1) dM_simplifyOne_139 rfl rfl ?_
    refine am_icmp_eq_F (tgt := 144) dM_simplifyOne_140 (by decide) hd2 ?_
    refine am_vret (st := []) rfl dM_simplifyOne_143 ?_
    have eu : q_us1 P us v = upd us (q_rul P v) (us (q_rul P v) + 1) := by
      unfold q_us1
      rw [if_neg (fun q => c120 ((nI_0le (q_rul_le P v)).mpr q))]
    have es : q_std st P v = q_dir P v := by
      unfold q_std
      rw [if_neg hd]
    have ez : q_use st P us v = q_us1 P us v := by
      unfold q_use
      rw [if_neg (fun q => hd q.1)]
    rw [es, ez, eu] at K
    exact K
set_option maxRecDepth 100000 in
set_option maxHeartbeats 4000000 in
theorem cM_simplifyOne {g : am_G} {d : Nat} {Q : Option am_V → am_H → Prop} {X : Nat → Nat → Nat → am_V} {A P : Nat → Nat → Int32} {st mk pa ce wd us : Nat → Int32} {si : Int32} {n : Nat} {v : Nat} (hn : n ≤ 28) (hJ : q_J n v P st) (hv : v < n) (k : Q none (hm X (ym A (q_sP st P v) (upd st v (q_sx st P v)) mk pa ce wd (q_sU st P us v) (nI n) si))) : am_C g mM_simplifyOne (d + 2) 0 0 [am_O 20 0, am_I (nI v)] (hm X (ym A P st mk pa ce wd us (nI n) si)) Q := by
  have hJ1 := q_rep_J hJ hv hn
  have hst : st v = nI v := by
    obtain ⟨j, -, e, -, hj⟩ := hJ.2 v hv
    rw [e, hj (Nat.le_refl _)]
  have KR : ∀ o2 : Option am_V, am_T g mM_simplifyOne (d + 2) 0 0 113 [some (am_O 20 0), some (am_I (nI v)), o2, none] [] (hm X (ym A (q_rep st P v) st mk pa ce wd us (nI n) si)) Q := by
    intro o2
    refine am_aload_n (i := 0) dM_simplifyOne_113 rfl rfl ?_
    refine am_iload_n (i := 1) dM_simplifyOne_114 rfl rfl ?_
    refine am_callV (ac' := 0) (as' := 0) (xs := [_]) dM_simplifyOne_115 lkM_91 (by first | rfl | exact sk8 (by omega) | exact sk9 (by omega) | exact sk10 (by omega) | exact sk11 (by omega)) rfl rfl rfl rfl (Nat.le_of_ble_eq_true rfl) rfl rfl (cM_rule hn hJ1.1 hv hst (fun r T S er eT eS => ?_))
    refine am_istore_n (i := 2) dM_simplifyOne_118 rfl (by decide) ?_
    subst er; subst eT
    by_cases hd : q_dir (q_rep st P v) v = -1
    · rw [if_pos hd] at eS
      subst eS
      exact lpM_onea hn hv hst hd k
    · rw [if_neg hd] at eS
      subst eS
      obtain ⟨j, hj, ej, -⟩ := q_dir_ar hJ1.1 hv hn hd
      exact lpM_oneb hn hv hst hd (fun q => by
        rw [ej] at q
        have := nI_inj (by omega) (by omega) q
        omega) k
  refine am_enter (lv := [some (am_O 20 0), some (am_I (nI v)), none, none]) rfl rfl (am_cat1 rfl) (Nat.le_of_ble_eq_true rfl) ?_
  obtain ⟨⟨b3, b4, b5, b6⟩, hc, hkd, -⟩ := hJ.1 v hv
  refine am_aload_n (i := 0) dM_simplifyOne_0 rfl rfl ?_
  refine am_getf dM_simplifyOne_1 flM_13 (by first | rfl | exact sk8 (by omega) | exact sk9 (by omega) | exact sk10 (by omega) | exact sk11 (by omega)) rfl ?_
  refine am_iload_n (i := 1) dM_simplifyOne_4 rfl rfl ?_
  refine am_iald dM_simplifyOne_5 (by first | rfl | exact sk8 (by omega) | exact sk9 (by omega) | exact sk10 (by omega) | exact sk11 (by omega)) rfl (by first | omega | assumption | decide) (by decide) (by decide) (by first | exact congrArg am_I ((mkd_lo (by omega)).trans (up2_eq _ _ _ _)) | exact congrArg am_I ((mkd_lo (by omega)).trans ((up2_k (by decide)).trans (up2_eq _ _ _ _))) | exact congrArg am_I ((mkd_lo (by omega)).trans ((up2_k (by decide)).trans (up2_k (by decide)))) | exact congrArg am_I ((mkd_lo (by omega)).trans (up2_k (by decide))) | exact congrArg am_I (mkd_lo (by omega)) | rfl) ?_
  refine am_if_lt (tgt := 26) dM_simplifyOne_6 (by decide) (fun c6 => ?_) (fun c6 => ?_)
  · refine am_aload_n (i := 0) dM_simplifyOne_26 rfl rfl ?_
    refine am_getf dM_simplifyOne_27 flM_16 (by first | rfl | exact sk8 (by omega) | exact sk9 (by omega) | exact sk10 (by omega) | exact sk11 (by omega)) rfl ?_
    refine am_iload_n (i := 1) dM_simplifyOne_30 rfl rfl ?_
    refine am_iald dM_simplifyOne_31 (by first | rfl | exact sk8 (by omega) | exact sk9 (by omega) | exact sk10 (by omega) | exact sk11 (by omega)) rfl (by first | omega | assumption | decide) (by decide) (by decide) (by first | exact congrArg am_I ((mkd_lo (by omega)).trans (up2_eq _ _ _ _)) | exact congrArg am_I ((mkd_lo (by omega)).trans ((up2_k (by decide)).trans (up2_eq _ _ _ _))) | exact congrArg am_I ((mkd_lo (by omega)).trans ((up2_k (by decide)).trans (up2_k (by decide)))) | exact congrArg am_I ((mkd_lo (by omega)).trans (up2_k (by decide))) | exact congrArg am_I (mkd_lo (by omega)) | rfl) ?_
    refine am_if_lt (tgt := 52) dM_simplifyOne_32 (by decide) (fun c32 => ?_) (fun c32 => ?_)
    · refine am_aload_n (i := 0) dM_simplifyOne_52 rfl rfl ?_
      refine am_getf dM_simplifyOne_53 flM_7 (by first | rfl | exact sk8 (by omega) | exact sk9 (by omega) | exact sk10 (by omega) | exact sk11 (by omega)) rfl ?_
      refine am_iload_n (i := 1) dM_simplifyOne_56 rfl rfl ?_
      refine am_iald dM_simplifyOne_57 (by first | rfl | exact sk8 (by omega) | exact sk9 (by omega) | exact sk10 (by omega) | exact sk11 (by omega)) rfl (by first | omega | assumption | decide) (by decide) (by decide) (by first | exact congrArg am_I ((mkd_lo (by omega)).trans (up2_eq _ _ _ _)) | exact congrArg am_I ((mkd_lo (by omega)).trans ((up2_k (by decide)).trans (up2_eq _ _ _ _))) | exact congrArg am_I ((mkd_lo (by omega)).trans ((up2_k (by decide)).trans (up2_k (by decide)))) | exact congrArg am_I ((mkd_lo (by omega)).trans (up2_k (by decide))) | exact congrArg am_I (mkd_lo (by omega)) | rfl) ?_
      refine am_iconst (v := 3) dM_simplifyOne_58 (by decide) ?_
      refine am_icmp_lt (tgt := 113) dM_simplifyOne_59 (by decide) (fun c59 => ?_) (fun c59 => ?_)
      · have m3 : q_r3 st P v = -1 := by
          unfold q_r3
          rw [if_pos ((q_arg_neg b3 (by omega)).1.mp c6)]
        have m4 : q_r4 st P v = -1 := by
          unfold q_r4
          rw [if_pos ((q_arg_neg b4 (by omega)).1.mp c32)]
        have p3 : P v 3 = -1 := (q_arg_neg b3 (by omega)).1.mp c6
        have p4 : P v 4 = -1 := (q_arg_neg b4 (by omega)).1.mp c32
        have hsw : ¬ q_sw st P v := fun q => by have := q.1; grind
        refine am_hT (h' := (hm X (ym A (q_rep st P v) st mk pa ce wd us (nI n) si))) ?_ (KR _)
        congr 2
        unfold q_rep
        rw [if_neg hsw, if_neg hsw]
        rw [m3, m4]
        first
          | done
          | (funext u z; unfold up2; grind)
      · refine am_aload_n (i := 0) dM_simplifyOne_62 rfl rfl ?_
        refine am_getf dM_simplifyOne_63 flM_7 (by first | rfl | exact sk8 (by omega) | exact sk9 (by omega) | exact sk10 (by omega) | exact sk11 (by omega)) rfl ?_
        refine am_iload_n (i := 1) dM_simplifyOne_66 rfl rfl ?_
        refine am_iald dM_simplifyOne_67 (by first | rfl | exact sk8 (by omega) | exact sk9 (by omega) | exact sk10 (by omega) | exact sk11 (by omega)) rfl (by first | omega | assumption | decide) (by decide) (by decide) (by first | exact congrArg am_I ((mkd_lo (by omega)).trans (up2_eq _ _ _ _)) | exact congrArg am_I ((mkd_lo (by omega)).trans ((up2_k (by decide)).trans (up2_eq _ _ _ _))) | exact congrArg am_I ((mkd_lo (by omega)).trans ((up2_k (by decide)).trans (up2_k (by decide)))) | exact congrArg am_I ((mkd_lo (by omega)).trans (up2_k (by decide))) | exact congrArg am_I (mkd_lo (by omega)) | rfl) ?_
        refine am_iconst (v := 5) dM_simplifyOne_68 (by decide) ?_
        refine am_icmp_gt (tgt := 113) dM_simplifyOne_69 (by decide) (fun c69 => ?_) (fun c69 => ?_)
        · have m3 : q_r3 st P v = -1 := by
            unfold q_r3
            rw [if_pos ((q_arg_neg b3 (by omega)).1.mp c6)]
          have m4 : q_r4 st P v = -1 := by
            unfold q_r4
            rw [if_pos ((q_arg_neg b4 (by omega)).1.mp c32)]
          have p3 : P v 3 = -1 := (q_arg_neg b3 (by omega)).1.mp c6
          have p4 : P v 4 = -1 := (q_arg_neg b4 (by omega)).1.mp c32
          have hsw : ¬ q_sw st P v := fun q => by have := q.1; grind
          refine am_hT (h' := (hm X (ym A (q_rep st P v) st mk pa ce wd us (nI n) si))) ?_ (KR _)
          congr 2
          unfold q_rep
          rw [if_neg hsw, if_neg hsw]
          rw [m3, m4]
          first
            | done
            | (funext u z; unfold up2; grind)
        · refine am_aload_n (i := 0) dM_simplifyOne_72 rfl rfl ?_
          refine am_getf dM_simplifyOne_73 flM_13 (by first | rfl | exact sk8 (by omega) | exact sk9 (by omega) | exact sk10 (by omega) | exact sk11 (by omega)) rfl ?_
          refine am_iload_n (i := 1) dM_simplifyOne_76 rfl rfl ?_
          refine am_iald dM_simplifyOne_77 (by first | rfl | exact sk8 (by omega) | exact sk9 (by omega) | exact sk10 (by omega) | exact sk11 (by omega)) rfl (by first | omega | assumption | decide) (by decide) (by decide) (by first | exact congrArg am_I ((mkd_lo (by omega)).trans (up2_eq _ _ _ _)) | exact congrArg am_I ((mkd_lo (by omega)).trans ((up2_k (by decide)).trans (up2_eq _ _ _ _))) | exact congrArg am_I ((mkd_lo (by omega)).trans ((up2_k (by decide)).trans (up2_k (by decide)))) | exact congrArg am_I ((mkd_lo (by omega)).trans (up2_k (by decide))) | exact congrArg am_I (mkd_lo (by omega)) | rfl) ?_
          refine am_aload_n (i := 0) dM_simplifyOne_78 rfl rfl ?_
          refine am_getf dM_simplifyOne_79 flM_16 (by first | rfl | exact sk8 (by omega) | exact sk9 (by omega) | exact sk10 (by omega) | exact sk11 (by omega)) rfl ?_
          refine am_iload_n (i := 1) dM_simplifyOne_82 rfl rfl ?_
          refine am_iald dM_simplifyOne_83 (by first | rfl | exact sk8 (by omega) | exact sk9 (by omega) | exact sk10 (by omega) | exact sk11 (by omega)) rfl (by first | omega | assumption | decide) (by decide) (by decide) (by first | exact congrArg am_I ((mkd_lo (by omega)).trans (up2_eq _ _ _ _)) | exact congrArg am_I ((mkd_lo (by omega)).trans ((up2_k (by decide)).trans (up2_eq _ _ _ _))) | exact congrArg am_I ((mkd_lo (by omega)).trans ((up2_k (by decide)).trans (up2_k (by decide)))) | exact congrArg am_I ((mkd_lo (by omega)).trans (up2_k (by decide))) | exact congrArg am_I (mkd_lo (by omega)) | rfl) ?_
          refine am_icmp_le (tgt := 113) dM_simplifyOne_84 (by decide) (fun c84 => ?_) (fun c84 => ?_)
          · have m3 : q_r3 st P v = -1 := by
              unfold q_r3
              rw [if_pos ((q_arg_neg b3 (by omega)).1.mp c6)]
            have m4 : q_r4 st P v = -1 := by
              unfold q_r4
              rw [if_pos ((q_arg_neg b4 (by omega)).1.mp c32)]
            have p3 : P v 3 = -1 := (q_arg_neg b3 (by omega)).1.mp c6
            have p4 : P v 4 = -1 := (q_arg_neg b4 (by omega)).1.mp c32
            have hsw : ¬ q_sw st P v := fun q => q.2 (by rw [m3, m4]; first | exact c84 | (rw [← p3]; exact c84) | (rw [← p4]; exact c84) | (rw [p3, p4] at c84; exact c84))
            refine am_hT (h' := (hm X (ym A (q_rep st P v) st mk pa ce wd us (nI n) si))) ?_ (KR _)
            congr 2
            unfold q_rep
            rw [if_neg hsw, if_neg hsw]
            rw [m3, m4]
            first
              | done
              | (funext u z; unfold up2; grind)
          · refine am_aload_n (i := 0) dM_simplifyOne_87 rfl rfl ?_
            refine am_getf dM_simplifyOne_88 flM_13 (by first | rfl | exact sk8 (by omega) | exact sk9 (by omega) | exact sk10 (by omega) | exact sk11 (by omega)) rfl ?_
            refine am_iload_n (i := 1) dM_simplifyOne_91 rfl rfl ?_
            refine am_iald dM_simplifyOne_92 (by first | rfl | exact sk8 (by omega) | exact sk9 (by omega) | exact sk10 (by omega) | exact sk11 (by omega)) rfl (by first | omega | assumption | decide) (by decide) (by decide) (by first | exact congrArg am_I ((mkd_lo (by omega)).trans (up2_eq _ _ _ _)) | exact congrArg am_I ((mkd_lo (by omega)).trans ((up2_k (by decide)).trans (up2_eq _ _ _ _))) | exact congrArg am_I ((mkd_lo (by omega)).trans ((up2_k (by decide)).trans (up2_k (by decide)))) | exact congrArg am_I ((mkd_lo (by omega)).trans (up2_k (by decide))) | exact congrArg am_I (mkd_lo (by omega)) | rfl) ?_
            refine am_istore_n (i := 2) dM_simplifyOne_93 rfl (by decide) ?_
            refine am_aload_n (i := 0) dM_simplifyOne_94 rfl rfl ?_
            refine am_getf dM_simplifyOne_95 flM_13 (by first | rfl | exact sk8 (by omega) | exact sk9 (by omega) | exact sk10 (by omega) | exact sk11 (by omega)) rfl ?_
            refine am_iload_n (i := 1) dM_simplifyOne_98 rfl rfl ?_
            refine am_aload_n (i := 0) dM_simplifyOne_99 rfl rfl ?_
            refine am_getf dM_simplifyOne_100 flM_16 (by first | rfl | exact sk8 (by omega) | exact sk9 (by omega) | exact sk10 (by omega) | exact sk11 (by omega)) rfl ?_
            refine am_iload_n (i := 1) dM_simplifyOne_103 rfl rfl ?_
            refine am_iald dM_simplifyOne_104 (by first | rfl | exact sk8 (by omega) | exact sk9 (by omega) | exact sk10 (by omega) | exact sk11 (by omega)) rfl (by first | omega | assumption | decide) (by decide) (by decide) (by first | exact congrArg am_I ((mkd_lo (by omega)).trans (up2_eq _ _ _ _)) | exact congrArg am_I ((mkd_lo (by omega)).trans ((up2_k (by decide)).trans (up2_eq _ _ _ _))) | exact congrArg am_I ((mkd_lo (by omega)).trans ((up2_k (by decide)).trans (up2_k (by decide)))) | exact congrArg am_I ((mkd_lo (by omega)).trans (up2_k (by decide))) | exact congrArg am_I (mkd_lo (by omega)) | rfl) ?_
            refine am_iast' dM_simplifyOne_105 (by first | rfl | exact sk8 (by omega) | exact sk9 (by omega) | exact sk10 (by omega) | exact sk11 (by omega)) rfl (by first | omega | assumption | decide) (by decide) (by decide) (by first | exact wm_kd (by omega) | exact wm_kh (by omega) | exact wm_fi (by omega) | exact wm_fh (by omega) | exact wm_se (by omega) | exact wm_sh (by omega) | exact wm_np (by omega) | exact wm_ph (by omega) | exact wm_nq (by omega) | exact wm_qh (by omega) | exact wm_ro | exact wm_co | exact wm_mm | exact wm_sd | exact wm_pa | exact wm_ce | exact wm_wd | exact wm_ud | exact wm_vn | exact wm_sm) ?_
            refine am_aload_n (i := 0) dM_simplifyOne_106 rfl rfl ?_
            refine am_getf dM_simplifyOne_107 flM_16 (by first | rfl | exact sk8 (by omega) | exact sk9 (by omega) | exact sk10 (by omega) | exact sk11 (by omega)) rfl ?_
            refine am_iload_n (i := 1) dM_simplifyOne_110 rfl rfl ?_
            refine am_iload_n (i := 2) dM_simplifyOne_111 rfl rfl ?_
            refine am_iast' dM_simplifyOne_112 (by first | rfl | exact sk8 (by omega) | exact sk9 (by omega) | exact sk10 (by omega) | exact sk11 (by omega)) rfl (by first | omega | assumption | decide) (by decide) (by decide) (by first | exact wm_kd (by omega) | exact wm_kh (by omega) | exact wm_fi (by omega) | exact wm_fh (by omega) | exact wm_se (by omega) | exact wm_sh (by omega) | exact wm_np (by omega) | exact wm_ph (by omega) | exact wm_nq (by omega) | exact wm_qh (by omega) | exact wm_ro | exact wm_co | exact wm_mm | exact wm_sd | exact wm_pa | exact wm_ce | exact wm_wd | exact wm_ud | exact wm_vn | exact wm_sm) ?_
            have m3 : q_r3 st P v = -1 := by
              unfold q_r3
              rw [if_pos ((q_arg_neg b3 (by omega)).1.mp c6)]
            have m4 : q_r4 st P v = -1 := by
              unfold q_r4
              rw [if_pos ((q_arg_neg b4 (by omega)).1.mp c32)]
            have p3 : P v 3 = -1 := (q_arg_neg b3 (by omega)).1.mp c6
            have p4 : P v 4 = -1 := (q_arg_neg b4 (by omega)).1.mp c32
            have hsw : q_sw st P v := ⟨q_345 hkd c59 c69, by rw [m3, m4]; first | exact c84 | (rw [← p3]; exact c84) | (rw [← p4]; exact c84) | (rw [p3, p4] at c84; exact c84)⟩
            refine am_hT (h' := (hm X (ym A (q_rep st P v) st mk pa ce wd us (nI n) si))) ?_ (KR _)
            congr 2
            unfold q_rep
            rw [if_pos hsw, if_pos hsw]
            rw [m3, m4]
            first
              | done
              | (funext u z; unfold up2; grind)
    · have n4 : ¬ P v 4 = -1 := fun q => c32 ((q_arg_neg b4 (by omega)).1.mpr q)
      obtain ⟨g4, e4⟩ := b4.ix n4 (by omega)
      refine am_aload_n (i := 0) dM_simplifyOne_35 rfl rfl ?_
      refine am_getf dM_simplifyOne_36 flM_16 (by first | rfl | exact sk8 (by omega) | exact sk9 (by omega) | exact sk10 (by omega) | exact sk11 (by omega)) rfl ?_
      refine am_iload_n (i := 1) dM_simplifyOne_39 rfl rfl ?_
      refine am_aload_n (i := 0) dM_simplifyOne_40 rfl rfl ?_
      refine am_getf dM_simplifyOne_41 flM_35 (by first | rfl | exact sk8 (by omega) | exact sk9 (by omega) | exact sk10 (by omega) | exact sk11 (by omega)) rfl ?_
      refine am_aload_n (i := 0) dM_simplifyOne_44 rfl rfl ?_
      refine am_getf dM_simplifyOne_45 flM_16 (by first | rfl | exact sk8 (by omega) | exact sk9 (by omega) | exact sk10 (by omega) | exact sk11 (by omega)) rfl ?_
      refine am_iload_n (i := 1) dM_simplifyOne_48 rfl rfl ?_
      refine am_iald dM_simplifyOne_49 (by first | rfl | exact sk8 (by omega) | exact sk9 (by omega) | exact sk10 (by omega) | exact sk11 (by omega)) rfl (by first | omega | assumption | decide) (by decide) (by decide) (by first | exact congrArg am_I ((mkd_lo (by omega)).trans (up2_eq _ _ _ _)) | exact congrArg am_I ((mkd_lo (by omega)).trans ((up2_k (by decide)).trans (up2_eq _ _ _ _))) | exact congrArg am_I ((mkd_lo (by omega)).trans ((up2_k (by decide)).trans (up2_k (by decide)))) | exact congrArg am_I ((mkd_lo (by omega)).trans (up2_k (by decide))) | exact congrArg am_I (mkd_lo (by omega)) | rfl) ?_
      refine am_iald dM_simplifyOne_50 (by first | rfl | exact sk8 (by omega) | exact sk9 (by omega) | exact sk10 (by omega) | exact sk11 (by omega)) e4 (by first | omega | assumption | decide) (by decide) (by decide) rfl ?_
      refine am_iast' dM_simplifyOne_51 (by first | rfl | exact sk8 (by omega) | exact sk9 (by omega) | exact sk10 (by omega) | exact sk11 (by omega)) rfl (by first | omega | assumption | decide) (by decide) (by decide) (by first | exact wm_kd (by omega) | exact wm_kh (by omega) | exact wm_fi (by omega) | exact wm_fh (by omega) | exact wm_se (by omega) | exact wm_sh (by omega) | exact wm_np (by omega) | exact wm_ph (by omega) | exact wm_nq (by omega) | exact wm_qh (by omega) | exact wm_ro | exact wm_co | exact wm_mm | exact wm_sd | exact wm_pa | exact wm_ce | exact wm_wd | exact wm_ud | exact wm_vn | exact wm_sm) ?_
      refine am_aload_n (i := 0) dM_simplifyOne_52 rfl rfl ?_
      refine am_getf dM_simplifyOne_53 flM_7 (by first | rfl | exact sk8 (by omega) | exact sk9 (by omega) | exact sk10 (by omega) | exact sk11 (by omega)) rfl ?_
      refine am_iload_n (i := 1) dM_simplifyOne_56 rfl rfl ?_
      refine am_iald dM_simplifyOne_57 (by first | rfl | exact sk8 (by omega) | exact sk9 (by omega) | exact sk10 (by omega) | exact sk11 (by omega)) rfl (by first | omega | assumption | decide) (by decide) (by decide) (by first | exact congrArg am_I ((mkd_lo (by omega)).trans (up2_eq _ _ _ _)) | exact congrArg am_I ((mkd_lo (by omega)).trans ((up2_k (by decide)).trans (up2_eq _ _ _ _))) | exact congrArg am_I ((mkd_lo (by omega)).trans ((up2_k (by decide)).trans (up2_k (by decide)))) | exact congrArg am_I ((mkd_lo (by omega)).trans (up2_k (by decide))) | exact congrArg am_I (mkd_lo (by omega)) | rfl) ?_
      refine am_iconst (v := 3) dM_simplifyOne_58 (by decide) ?_
      refine am_icmp_lt (tgt := 113) dM_simplifyOne_59 (by decide) (fun c59 => ?_) (fun c59 => ?_)
      · have m3 : q_r3 st P v = -1 := by
          unfold q_r3
          rw [if_pos ((q_arg_neg b3 (by omega)).1.mp c6)]
        have m4 : q_r4 st P v = st (ix (P v 4)) := by
          unfold q_r4
          rw [if_neg n4]
        have p3 : P v 3 = -1 := (q_arg_neg b3 (by omega)).1.mp c6
        have hsw : ¬ q_sw st P v := fun q => by have := q.1; grind
        refine am_hT (h' := (hm X (ym A (q_rep st P v) st mk pa ce wd us (nI n) si))) ?_ (KR _)
        congr 2
        unfold q_rep
        rw [if_neg hsw, if_neg hsw]
        rw [m3, m4]
        first
          | done
          | (funext u z; unfold up2; grind)
      · refine am_aload_n (i := 0) dM_simplifyOne_62 rfl rfl ?_
        refine am_getf dM_simplifyOne_63 flM_7 (by first | rfl | exact sk8 (by omega) | exact sk9 (by omega) | exact sk10 (by omega) | exact sk11 (by omega)) rfl ?_
        refine am_iload_n (i := 1) dM_simplifyOne_66 rfl rfl ?_
        refine am_iald dM_simplifyOne_67 (by first | rfl | exact sk8 (by omega) | exact sk9 (by omega) | exact sk10 (by omega) | exact sk11 (by omega)) rfl (by first | omega | assumption | decide) (by decide) (by decide) (by first | exact congrArg am_I ((mkd_lo (by omega)).trans (up2_eq _ _ _ _)) | exact congrArg am_I ((mkd_lo (by omega)).trans ((up2_k (by decide)).trans (up2_eq _ _ _ _))) | exact congrArg am_I ((mkd_lo (by omega)).trans ((up2_k (by decide)).trans (up2_k (by decide)))) | exact congrArg am_I ((mkd_lo (by omega)).trans (up2_k (by decide))) | exact congrArg am_I (mkd_lo (by omega)) | rfl) ?_
        refine am_iconst (v := 5) dM_simplifyOne_68 (by decide) ?_
        refine am_icmp_gt (tgt := 113) dM_simplifyOne_69 (by decide) (fun c69 => ?_) (fun c69 => ?_)
        · have m3 : q_r3 st P v = -1 := by
            unfold q_r3
            rw [if_pos ((q_arg_neg b3 (by omega)).1.mp c6)]
          have m4 : q_r4 st P v = st (ix (P v 4)) := by
            unfold q_r4
            rw [if_neg n4]
          have p3 : P v 3 = -1 := (q_arg_neg b3 (by omega)).1.mp c6
          have hsw : ¬ q_sw st P v := fun q => by have := q.1; grind
          refine am_hT (h' := (hm X (ym A (q_rep st P v) st mk pa ce wd us (nI n) si))) ?_ (KR _)
          congr 2
          unfold q_rep
          rw [if_neg hsw, if_neg hsw]
          rw [m3, m4]
          first
            | done
            | (funext u z; unfold up2; grind)
        · refine am_aload_n (i := 0) dM_simplifyOne_72 rfl rfl ?_
          refine am_getf dM_simplifyOne_73 flM_13 (by first | rfl | exact sk8 (by omega) | exact sk9 (by omega) | exact sk10 (by omega) | exact sk11 (by omega)) rfl ?_
          refine am_iload_n (i := 1) dM_simplifyOne_76 rfl rfl ?_
          refine am_iald dM_simplifyOne_77 (by first | rfl | exact sk8 (by omega) | exact sk9 (by omega) | exact sk10 (by omega) | exact sk11 (by omega)) rfl (by first | omega | assumption | decide) (by decide) (by decide) (by first | exact congrArg am_I ((mkd_lo (by omega)).trans (up2_eq _ _ _ _)) | exact congrArg am_I ((mkd_lo (by omega)).trans ((up2_k (by decide)).trans (up2_eq _ _ _ _))) | exact congrArg am_I ((mkd_lo (by omega)).trans ((up2_k (by decide)).trans (up2_k (by decide)))) | exact congrArg am_I ((mkd_lo (by omega)).trans (up2_k (by decide))) | exact congrArg am_I (mkd_lo (by omega)) | rfl) ?_
          refine am_aload_n (i := 0) dM_simplifyOne_78 rfl rfl ?_
          refine am_getf dM_simplifyOne_79 flM_16 (by first | rfl | exact sk8 (by omega) | exact sk9 (by omega) | exact sk10 (by omega) | exact sk11 (by omega)) rfl ?_
          refine am_iload_n (i := 1) dM_simplifyOne_82 rfl rfl ?_
          refine am_iald dM_simplifyOne_83 (by first | rfl | exact sk8 (by omega) | exact sk9 (by omega) | exact sk10 (by omega) | exact sk11 (by omega)) rfl (by first | omega | assumption | decide) (by decide) (by decide) (by first | exact congrArg am_I ((mkd_lo (by omega)).trans (up2_eq _ _ _ _)) | exact congrArg am_I ((mkd_lo (by omega)).trans ((up2_k (by decide)).trans (up2_eq _ _ _ _))) | exact congrArg am_I ((mkd_lo (by omega)).trans ((up2_k (by decide)).trans (up2_k (by decide)))) | exact congrArg am_I ((mkd_lo (by omega)).trans (up2_k (by decide))) | exact congrArg am_I (mkd_lo (by omega)) | rfl) ?_
          refine am_icmp_le (tgt := 113) dM_simplifyOne_84 (by decide) (fun c84 => ?_) (fun c84 => ?_)
          · have m3 : q_r3 st P v = -1 := by
              unfold q_r3
              rw [if_pos ((q_arg_neg b3 (by omega)).1.mp c6)]
            have m4 : q_r4 st P v = st (ix (P v 4)) := by
              unfold q_r4
              rw [if_neg n4]
            have p3 : P v 3 = -1 := (q_arg_neg b3 (by omega)).1.mp c6
            have hsw : ¬ q_sw st P v := fun q => q.2 (by rw [m3, m4]; first | exact c84 | (rw [← p3]; exact c84) | (rw [← p4]; exact c84) | (rw [p3, p4] at c84; exact c84))
            refine am_hT (h' := (hm X (ym A (q_rep st P v) st mk pa ce wd us (nI n) si))) ?_ (KR _)
            congr 2
            unfold q_rep
            rw [if_neg hsw, if_neg hsw]
            rw [m3, m4]
            first
              | done
              | (funext u z; unfold up2; grind)
          · refine am_aload_n (i := 0) dM_simplifyOne_87 rfl rfl ?_
            refine am_getf dM_simplifyOne_88 flM_13 (by first | rfl | exact sk8 (by omega) | exact sk9 (by omega) | exact sk10 (by omega) | exact sk11 (by omega)) rfl ?_
            refine am_iload_n (i := 1) dM_simplifyOne_91 rfl rfl ?_
            refine am_iald dM_simplifyOne_92 (by first | rfl | exact sk8 (by omega) | exact sk9 (by omega) | exact sk10 (by omega) | exact sk11 (by omega)) rfl (by first | omega | assumption | decide) (by decide) (by decide) (by first | exact congrArg am_I ((mkd_lo (by omega)).trans (up2_eq _ _ _ _)) | exact congrArg am_I ((mkd_lo (by omega)).trans ((up2_k (by decide)).trans (up2_eq _ _ _ _))) | exact congrArg am_I ((mkd_lo (by omega)).trans ((up2_k (by decide)).trans (up2_k (by decide)))) | exact congrArg am_I ((mkd_lo (by omega)).trans (up2_k (by decide))) | exact congrArg am_I (mkd_lo (by omega)) | rfl) ?_
            refine am_istore_n (i := 2) dM_simplifyOne_93 rfl (by decide) ?_
            refine am_aload_n (i := 0) dM_simplifyOne_94 rfl rfl ?_
            refine am_getf dM_simplifyOne_95 flM_13 (by first | rfl | exact sk8 (by omega) | exact sk9 (by omega) | exact sk10 (by omega) | exact sk11 (by omega)) rfl ?_
            refine am_iload_n (i := 1) dM_simplifyOne_98 rfl rfl ?_
            refine am_aload_n (i := 0) dM_simplifyOne_99 rfl rfl ?_
            refine am_getf dM_simplifyOne_100 flM_16 (by first | rfl | exact sk8 (by omega) | exact sk9 (by omega) | exact sk10 (by omega) | exact sk11 (by omega)) rfl ?_
            refine am_iload_n (i := 1) dM_simplifyOne_103 rfl rfl ?_
            refine am_iald dM_simplifyOne_104 (by first | rfl | exact sk8 (by omega) | exact sk9 (by omega) | exact sk10 (by omega) | exact sk11 (by omega)) rfl (by first | omega | assumption | decide) (by decide) (by decide) (by first | exact congrArg am_I ((mkd_lo (by omega)).trans (up2_eq _ _ _ _)) | exact congrArg am_I ((mkd_lo (by omega)).trans ((up2_k (by decide)).trans (up2_eq _ _ _ _))) | exact congrArg am_I ((mkd_lo (by omega)).trans ((up2_k (by decide)).trans (up2_k (by decide)))) | exact congrArg am_I ((mkd_lo (by omega)).trans (up2_k (by decide))) | exact congrArg am_I (mkd_lo (by omega)) | rfl) ?_
            refine am_iast' dM_simplifyOne_105 (by first | rfl | exact sk8 (by omega) | exact sk9 (by omega) | exact sk10 (by omega) | exact sk11 (by omega)) rfl (by first | omega | assumption | decide) (by decide) (by decide) (by first | exact wm_kd (by omega) | exact wm_kh (by omega) | exact wm_fi (by omega) | exact wm_fh (by omega) | exact wm_se (by omega) | exact wm_sh (by omega) | exact wm_np (by omega) | exact wm_ph (by omega) | exact wm_nq (by omega) | exact wm_qh (by omega) | exact wm_ro | exact wm_co | exact wm_mm | exact wm_sd | exact wm_pa | exact wm_ce | exact wm_wd | exact wm_ud | exact wm_vn | exact wm_sm) ?_
            refine am_aload_n (i := 0) dM_simplifyOne_106 rfl rfl ?_
            refine am_getf dM_simplifyOne_107 flM_16 (by first | rfl | exact sk8 (by omega) | exact sk9 (by omega) | exact sk10 (by omega) | exact sk11 (by omega)) rfl ?_
            refine am_iload_n (i := 1) dM_simplifyOne_110 rfl rfl ?_
            refine am_iload_n (i := 2) dM_simplifyOne_111 rfl rfl ?_
            refine am_iast' dM_simplifyOne_112 (by first | rfl | exact sk8 (by omega) | exact sk9 (by omega) | exact sk10 (by omega) | exact sk11 (by omega)) rfl (by first | omega | assumption | decide) (by decide) (by decide) (by first | exact wm_kd (by omega) | exact wm_kh (by omega) | exact wm_fi (by omega) | exact wm_fh (by omega) | exact wm_se (by omega) | exact wm_sh (by omega) | exact wm_np (by omega) | exact wm_ph (by omega) | exact wm_nq (by omega) | exact wm_qh (by omega) | exact wm_ro | exact wm_co | exact wm_mm | exact wm_sd | exact wm_pa | exact wm_ce | exact wm_wd | exact wm_ud | exact wm_vn | exact wm_sm) ?_
            have m3 : q_r3 st P v = -1 := by
              unfold q_r3
              rw [if_pos ((q_arg_neg b3 (by omega)).1.mp c6)]
            have m4 : q_r4 st P v = st (ix (P v 4)) := by
              unfold q_r4
              rw [if_neg n4]
            have p3 : P v 3 = -1 := (q_arg_neg b3 (by omega)).1.mp c6
            have hsw : q_sw st P v := ⟨q_345 hkd c59 c69, by rw [m3, m4]; first | exact c84 | (rw [← p3]; exact c84) | (rw [← p4]; exact c84) | (rw [p3, p4] at c84; exact c84)⟩
            refine am_hT (h' := (hm X (ym A (q_rep st P v) st mk pa ce wd us (nI n) si))) ?_ (KR _)
            congr 2
            unfold q_rep
            rw [if_pos hsw, if_pos hsw]
            rw [m3, m4]
            first
              | done
              | (funext u z; unfold up2; grind)
  · have n3 : ¬ P v 3 = -1 := fun q => c6 ((q_arg_neg b3 (by omega)).1.mpr q)
    obtain ⟨g3, e3⟩ := b3.ix n3 (by omega)
    refine am_aload_n (i := 0) dM_simplifyOne_9 rfl rfl ?_
    refine am_getf dM_simplifyOne_10 flM_13 (by first | rfl | exact sk8 (by omega) | exact sk9 (by omega) | exact sk10 (by omega) | exact sk11 (by omega)) rfl ?_
    refine am_iload_n (i := 1) dM_simplifyOne_13 rfl rfl ?_
    refine am_aload_n (i := 0) dM_simplifyOne_14 rfl rfl ?_
    refine am_getf dM_simplifyOne_15 flM_35 (by first | rfl | exact sk8 (by omega) | exact sk9 (by omega) | exact sk10 (by omega) | exact sk11 (by omega)) rfl ?_
    refine am_aload_n (i := 0) dM_simplifyOne_18 rfl rfl ?_
    refine am_getf dM_simplifyOne_19 flM_13 (by first | rfl | exact sk8 (by omega) | exact sk9 (by omega) | exact sk10 (by omega) | exact sk11 (by omega)) rfl ?_
    refine am_iload_n (i := 1) dM_simplifyOne_22 rfl rfl ?_
    refine am_iald dM_simplifyOne_23 (by first | rfl | exact sk8 (by omega) | exact sk9 (by omega) | exact sk10 (by omega) | exact sk11 (by omega)) rfl (by first | omega | assumption | decide) (by decide) (by decide) (by first | exact congrArg am_I ((mkd_lo (by omega)).trans (up2_eq _ _ _ _)) | exact congrArg am_I ((mkd_lo (by omega)).trans ((up2_k (by decide)).trans (up2_eq _ _ _ _))) | exact congrArg am_I ((mkd_lo (by omega)).trans ((up2_k (by decide)).trans (up2_k (by decide)))) | exact congrArg am_I ((mkd_lo (by omega)).trans (up2_k (by decide))) | exact congrArg am_I (mkd_lo (by omega)) | rfl) ?_
    refine am_iald dM_simplifyOne_24 (by first | rfl | exact sk8 (by omega) | exact sk9 (by omega) | exact sk10 (by omega) | exact sk11 (by omega)) e3 (by first | omega | assumption | decide) (by decide) (by decide) rfl ?_
    refine am_iast' dM_simplifyOne_25 (by first | rfl | exact sk8 (by omega) | exact sk9 (by omega) | exact sk10 (by omega) | exact sk11 (by omega)) rfl (by first | omega | assumption | decide) (by decide) (by decide) (by first | exact wm_kd (by omega) | exact wm_kh (by omega) | exact wm_fi (by omega) | exact wm_fh (by omega) | exact wm_se (by omega) | exact wm_sh (by omega) | exact wm_np (by omega) | exact wm_ph (by omega) | exact wm_nq (by omega) | exact wm_qh (by omega) | exact wm_ro | exact wm_co | exact wm_mm | exact wm_sd | exact wm_pa | exact wm_ce | exact wm_wd | exact wm_ud | exact wm_vn | exact wm_sm) ?_
    refine am_aload_n (i := 0) dM_simplifyOne_26 rfl rfl ?_
    refine am_getf dM_simplifyOne_27 flM_16 (by first | rfl | exact sk8 (by omega) | exact sk9 (by omega) | exact sk10 (by omega) | exact sk11 (by omega)) rfl ?_
    refine am_iload_n (i := 1) dM_simplifyOne_30 rfl rfl ?_
    refine am_iald dM_simplifyOne_31 (by first | rfl | exact sk8 (by omega) | exact sk9 (by omega) | exact sk10 (by omega) | exact sk11 (by omega)) rfl (by first | omega | assumption | decide) (by decide) (by decide) (by first | exact congrArg am_I ((mkd_lo (by omega)).trans (up2_eq _ _ _ _)) | exact congrArg am_I ((mkd_lo (by omega)).trans ((up2_k (by decide)).trans (up2_eq _ _ _ _))) | exact congrArg am_I ((mkd_lo (by omega)).trans ((up2_k (by decide)).trans (up2_k (by decide)))) | exact congrArg am_I ((mkd_lo (by omega)).trans (up2_k (by decide))) | exact congrArg am_I (mkd_lo (by omega)) | rfl) ?_
    refine am_if_lt (tgt := 52) dM_simplifyOne_32 (by decide) (fun c32 => ?_) (fun c32 => ?_)
    · refine am_aload_n (i := 0) dM_simplifyOne_52 rfl rfl ?_
      refine am_getf dM_simplifyOne_53 flM_7 (by first | rfl | exact sk8 (by omega) | exact sk9 (by omega) | exact sk10 (by omega) | exact sk11 (by omega)) rfl ?_
      refine am_iload_n (i := 1) dM_simplifyOne_56 rfl rfl ?_
      refine am_iald dM_simplifyOne_57 (by first | rfl | exact sk8 (by omega) | exact sk9 (by omega) | exact sk10 (by omega) | exact sk11 (by omega)) rfl (by first | omega | assumption | decide) (by decide) (by decide) (by first | exact congrArg am_I ((mkd_lo (by omega)).trans (up2_eq _ _ _ _)) | exact congrArg am_I ((mkd_lo (by omega)).trans ((up2_k (by decide)).trans (up2_eq _ _ _ _))) | exact congrArg am_I ((mkd_lo (by omega)).trans ((up2_k (by decide)).trans (up2_k (by decide)))) | exact congrArg am_I ((mkd_lo (by omega)).trans (up2_k (by decide))) | exact congrArg am_I (mkd_lo (by omega)) | rfl) ?_
      refine am_iconst (v := 3) dM_simplifyOne_58 (by decide) ?_
      refine am_icmp_lt (tgt := 113) dM_simplifyOne_59 (by decide) (fun c59 => ?_) (fun c59 => ?_)
      · have m3 : q_r3 st P v = st (ix (P v 3)) := by
          unfold q_r3
          rw [if_neg n3]
        have m4 : q_r4 st P v = -1 := by
          unfold q_r4
          rw [if_pos ((q_arg_neg b4 (by omega)).1.mp c32)]
        have p4 : P v 4 = -1 := (q_arg_neg b4 (by omega)).1.mp c32
        have hsw : ¬ q_sw st P v := fun q => by have := q.1; grind
        refine am_hT (h' := (hm X (ym A (q_rep st P v) st mk pa ce wd us (nI n) si))) ?_ (KR _)
        congr 2
        unfold q_rep
        rw [if_neg hsw, if_neg hsw]
        rw [m3, m4]
        first
          | done
          | (funext u z; unfold up2; grind)
      · refine am_aload_n (i := 0) dM_simplifyOne_62 rfl rfl ?_
        refine am_getf dM_simplifyOne_63 flM_7 (by first | rfl | exact sk8 (by omega) | exact sk9 (by omega) | exact sk10 (by omega) | exact sk11 (by omega)) rfl ?_
        refine am_iload_n (i := 1) dM_simplifyOne_66 rfl rfl ?_
        refine am_iald dM_simplifyOne_67 (by first | rfl | exact sk8 (by omega) | exact sk9 (by omega) | exact sk10 (by omega) | exact sk11 (by omega)) rfl (by first | omega | assumption | decide) (by decide) (by decide) (by first | exact congrArg am_I ((mkd_lo (by omega)).trans (up2_eq _ _ _ _)) | exact congrArg am_I ((mkd_lo (by omega)).trans ((up2_k (by decide)).trans (up2_eq _ _ _ _))) | exact congrArg am_I ((mkd_lo (by omega)).trans ((up2_k (by decide)).trans (up2_k (by decide)))) | exact congrArg am_I ((mkd_lo (by omega)).trans (up2_k (by decide))) | exact congrArg am_I (mkd_lo (by omega)) | rfl) ?_
        refine am_iconst (v := 5) dM_simplifyOne_68 (by decide) ?_
        refine am_icmp_gt (tgt := 113) dM_simplifyOne_69 (by decide) (fun c69 => ?_) (fun c69 => ?_)
        · have m3 : q_r3 st P v = st (ix (P v 3)) := by
            unfold q_r3
            rw [if_neg n3]
          have m4 : q_r4 st P v = -1 := by
            unfold q_r4
            rw [if_pos ((q_arg_neg b4 (by omega)).1.mp c32)]
          have p4 : P v 4 = -1 := (q_arg_neg b4 (by omega)).1.mp c32
          have hsw : ¬ q_sw st P v := fun q => by have := q.1; grind
          refine am_hT (h' := (hm X (ym A (q_rep st P v) st mk pa ce wd us (nI n) si))) ?_ (KR _)
          congr 2
          unfold q_rep
          rw [if_neg hsw, if_neg hsw]
          rw [m3, m4]
          first
            | done
            | (funext u z; unfold up2; grind)
        · refine am_aload_n (i := 0) dM_simplifyOne_72 rfl rfl ?_
          refine am_getf dM_simplifyOne_73 flM_13 (by first | rfl | exact sk8 (by omega) | exact sk9 (by omega) | exact sk10 (by omega) | exact sk11 (by omega)) rfl ?_
          refine am_iload_n (i := 1) dM_simplifyOne_76 rfl rfl ?_
          refine am_iald dM_simplifyOne_77 (by first | rfl | exact sk8 (by omega) | exact sk9 (by omega) | exact sk10 (by omega) | exact sk11 (by omega)) rfl (by first | omega | assumption | decide) (by decide) (by decide) (by first | exact congrArg am_I ((mkd_lo (by omega)).trans (up2_eq _ _ _ _)) | exact congrArg am_I ((mkd_lo (by omega)).trans ((up2_k (by decide)).trans (up2_eq _ _ _ _))) | exact congrArg am_I ((mkd_lo (by omega)).trans ((up2_k (by decide)).trans (up2_k (by decide)))) | exact congrArg am_I ((mkd_lo (by omega)).trans (up2_k (by decide))) | exact congrArg am_I (mkd_lo (by omega)) | rfl) ?_
          refine am_aload_n (i := 0) dM_simplifyOne_78 rfl rfl ?_
          refine am_getf dM_simplifyOne_79 flM_16 (by first | rfl | exact sk8 (by omega) | exact sk9 (by omega) | exact sk10 (by omega) | exact sk11 (by omega)) rfl ?_
          refine am_iload_n (i := 1) dM_simplifyOne_82 rfl rfl ?_
          refine am_iald dM_simplifyOne_83 (by first | rfl | exact sk8 (by omega) | exact sk9 (by omega) | exact sk10 (by omega) | exact sk11 (by omega)) rfl (by first | omega | assumption | decide) (by decide) (by decide) (by first | exact congrArg am_I ((mkd_lo (by omega)).trans (up2_eq _ _ _ _)) | exact congrArg am_I ((mkd_lo (by omega)).trans ((up2_k (by decide)).trans (up2_eq _ _ _ _))) | exact congrArg am_I ((mkd_lo (by omega)).trans ((up2_k (by decide)).trans (up2_k (by decide)))) | exact congrArg am_I ((mkd_lo (by omega)).trans (up2_k (by decide))) | exact congrArg am_I (mkd_lo (by omega)) | rfl) ?_
          refine am_icmp_le (tgt := 113) dM_simplifyOne_84 (by decide) (fun c84 => ?_) (fun c84 => ?_)
          · have m3 : q_r3 st P v = st (ix (P v 3)) := by
              unfold q_r3
              rw [if_neg n3]
            have m4 : q_r4 st P v = -1 := by
              unfold q_r4
              rw [if_pos ((q_arg_neg b4 (by omega)).1.mp c32)]
            have p4 : P v 4 = -1 := (q_arg_neg b4 (by omega)).1.mp c32
            have hsw : ¬ q_sw st P v := fun q => q.2 (by rw [m3, m4]; first | exact c84 | (rw [← p3]; exact c84) | (rw [← p4]; exact c84) | (rw [p3, p4] at c84; exact c84))
            refine am_hT (h' := (hm X (ym A (q_rep st P v) st mk pa ce wd us (nI n) si))) ?_ (KR _)
            congr 2
            unfold q_rep
            rw [if_neg hsw, if_neg hsw]
            rw [m3, m4]
            first
              | done
              | (funext u z; unfold up2; grind)
          · refine am_aload_n (i := 0) dM_simplifyOne_87 rfl rfl ?_
            refine am_getf dM_simplifyOne_88 flM_13 (by first | rfl | exact sk8 (by omega) | exact sk9 (by omega) | exact sk10 (by omega) | exact sk11 (by omega)) rfl ?_
            refine am_iload_n (i := 1) dM_simplifyOne_91 rfl rfl ?_
            refine am_iald dM_simplifyOne_92 (by first | rfl | exact sk8 (by omega) | exact sk9 (by omega) | exact sk10 (by omega) | exact sk11 (by omega)) rfl (by first | omega | assumption | decide) (by decide) (by decide) (by first | exact congrArg am_I ((mkd_lo (by omega)).trans (up2_eq _ _ _ _)) | exact congrArg am_I ((mkd_lo (by omega)).trans ((up2_k (by decide)).trans (up2_eq _ _ _ _))) | exact congrArg am_I ((mkd_lo (by omega)).trans ((up2_k (by decide)).trans (up2_k (by decide)))) | exact congrArg am_I ((mkd_lo (by omega)).trans (up2_k (by decide))) | exact congrArg am_I (mkd_lo (by omega)) | rfl) ?_
            refine am_istore_n (i := 2) dM_simplifyOne_93 rfl (by decide) ?_
            refine am_aload_n (i := 0) dM_simplifyOne_94 rfl rfl ?_
            refine am_getf dM_simplifyOne_95 flM_13 (by first | rfl | exact sk8 (by omega) | exact sk9 (by omega) | exact sk10 (by omega) | exact sk11 (by omega)) rfl ?_
            refine am_iload_n (i := 1) dM_simplifyOne_98 rfl rfl ?_
            refine am_aload_n (i := 0) dM_simplifyOne_99 rfl rfl ?_
            refine am_getf dM_simplifyOne_100 flM_16 (by first | rfl | exact sk8 (by omega) | exact sk9 (by omega) | exact sk10 (by omega) | exact sk11 (by omega)) rfl ?_
            refine am_iload_n (i := 1) dM_simplifyOne_103 rfl rfl ?_
            refine am_iald dM_simplifyOne_104 (by first | rfl | exact sk8 (by omega) | exact sk9 (by omega) | exact sk10 (by omega) | exact sk11 (by omega)) rfl (by first | omega | assumption | decide) (by decide) (by decide) (by first | exact congrArg am_I ((mkd_lo (by omega)).trans (up2_eq _ _ _ _)) | exact congrArg am_I ((mkd_lo (by omega)).trans ((up2_k (by decide)).trans (up2_eq _ _ _ _))) | exact congrArg am_I ((mkd_lo (by omega)).trans ((up2_k (by decide)).trans (up2_k (by decide)))) | exact congrArg am_I ((mkd_lo (by omega)).trans (up2_k (by decide))) | exact congrArg am_I (mkd_lo (by omega)) | rfl) ?_
            refine am_iast' dM_simplifyOne_105 (by first | rfl | exact sk8 (by omega) | exact sk9 (by omega) | exact sk10 (by omega) | exact sk11 (by omega)) rfl (by first | omega | assumption | decide) (by decide) (by decide) (by first | exact wm_kd (by omega) | exact wm_kh (by omega) | exact wm_fi (by omega) | exact wm_fh (by omega) | exact wm_se (by omega) | exact wm_sh (by omega) | exact wm_np (by omega) | exact wm_ph (by omega) | exact wm_nq (by omega) | exact wm_qh (by omega) | exact wm_ro | exact wm_co | exact wm_mm | exact wm_sd | exact wm_pa | exact wm_ce | exact wm_wd | exact wm_ud | exact wm_vn | exact wm_sm) ?_
            refine am_aload_n (i := 0) dM_simplifyOne_106 rfl rfl ?_
            refine am_getf dM_simplifyOne_107 flM_16 (by first | rfl | exact sk8 (by omega) | exact sk9 (by omega) | exact sk10 (by omega) | exact sk11 (by omega)) rfl ?_
            refine am_iload_n (i := 1) dM_simplifyOne_110 rfl rfl ?_
            refine am_iload_n (i := 2) dM_simplifyOne_111 rfl rfl ?_
            refine am_iast' dM_simplifyOne_112 (by first | rfl | exact sk8 (by omega) | exact sk9 (by omega) | exact sk10 (by omega) | exact sk11 (by omega)) rfl (by first | omega | assumption | decide) (by decide) (by decide) (by first | exact wm_kd (by omega) | exact wm_kh (by omega) | exact wm_fi (by omega) | exact wm_fh (by omega) | exact wm_se (by omega) | exact wm_sh (by omega) | exact wm_np (by omega) | exact wm_ph (by omega) | exact wm_nq (by omega) | exact wm_qh (by omega) | exact wm_ro | exact wm_co | exact wm_mm | exact wm_sd | exact wm_pa | exact wm_ce | exact wm_wd | exact wm_ud | exact wm_vn | exact wm_sm) ?_
            have m3 : q_r3 st P v = st (ix (P v 3)) := by
              unfold q_r3
              rw [if_neg n3]
            have m4 : q_r4 st P v = -1 := by
              unfold q_r4
              rw [if_pos ((q_arg_neg b4 (by omega)).1.mp c32)]
            have p4 : P v 4 = -1 := (q_arg_neg b4 (by omega)).1.mp c32
            have hsw : q_sw st P v := ⟨q_345 hkd c59 c69, by rw [m3, m4]; first | exact c84 | (rw [← p3]; exact c84) | (rw [← p4]; exact c84) | (rw [p3, p4] at c84; exact c84)⟩
            refine am_hT (h' := (hm X (ym A (q_rep st P v) st mk pa ce wd us (nI n) si))) ?_ (KR _)
            congr 2
            unfold q_rep
            rw [if_pos hsw, if_pos hsw]
            rw [m3, m4]
            first
              | done
              | (funext u z; unfold up2; grind)
    · have n4 : ¬ P v 4 = -1 := fun q => c32 ((q_arg_neg b4 (by omega)).1.mpr q)
      obtain ⟨g4, e4⟩ := b4.ix n4 (by omega)
      refine am_aload_n (i := 0) dM_simplifyOne_35 rfl rfl ?_
      refine am_getf dM_simplifyOne_36 flM_16 (by first | rfl | exact sk8 (by omega) | exact sk9 (by omega) | exact sk10 (by omega) | exact sk11 (by omega)) rfl ?_
      refine am_iload_n (i := 1) dM_simplifyOne_39 rfl rfl ?_
      refine am_aload_n (i := 0) dM_simplifyOne_40 rfl rfl ?_
      refine am_getf dM_simplifyOne_41 flM_35 (by first | rfl | exact sk8 (by omega) | exact sk9 (by omega) | exact sk10 (by omega) | exact sk11 (by omega)) rfl ?_
      refine am_aload_n (i := 0) dM_simplifyOne_44 rfl rfl ?_
      refine am_getf dM_simplifyOne_45 flM_16 (by first | rfl | exact sk8 (by omega) | exact sk9 (by omega) | exact sk10 (by omega) | exact sk11 (by omega)) rfl ?_
      refine am_iload_n (i := 1) dM_simplifyOne_48 rfl rfl ?_
      refine am_iald dM_simplifyOne_49 (by first | rfl | exact sk8 (by omega) | exact sk9 (by omega) | exact sk10 (by omega) | exact sk11 (by omega)) rfl (by first | omega | assumption | decide) (by decide) (by decide) (by first | exact congrArg am_I ((mkd_lo (by omega)).trans (up2_eq _ _ _ _)) | exact congrArg am_I ((mkd_lo (by omega)).trans ((up2_k (by decide)).trans (up2_eq _ _ _ _))) | exact congrArg am_I ((mkd_lo (by omega)).trans ((up2_k (by decide)).trans (up2_k (by decide)))) | exact congrArg am_I ((mkd_lo (by omega)).trans (up2_k (by decide))) | exact congrArg am_I (mkd_lo (by omega)) | rfl) ?_
      refine am_iald dM_simplifyOne_50 (by first | rfl | exact sk8 (by omega) | exact sk9 (by omega) | exact sk10 (by omega) | exact sk11 (by omega)) e4 (by first | omega | assumption | decide) (by decide) (by decide) rfl ?_
      refine am_iast' dM_simplifyOne_51 (by first | rfl | exact sk8 (by omega) | exact sk9 (by omega) | exact sk10 (by omega) | exact sk11 (by omega)) rfl (by first | omega | assumption | decide) (by decide) (by decide) (by first | exact wm_kd (by omega) | exact wm_kh (by omega) | exact wm_fi (by omega) | exact wm_fh (by omega) | exact wm_se (by omega) | exact wm_sh (by omega) | exact wm_np (by omega) | exact wm_ph (by omega) | exact wm_nq (by omega) | exact wm_qh (by omega) | exact wm_ro | exact wm_co | exact wm_mm | exact wm_sd | exact wm_pa | exact wm_ce | exact wm_wd | exact wm_ud | exact wm_vn | exact wm_sm) ?_
      refine am_aload_n (i := 0) dM_simplifyOne_52 rfl rfl ?_
      refine am_getf dM_simplifyOne_53 flM_7 (by first | rfl | exact sk8 (by omega) | exact sk9 (by omega) | exact sk10 (by omega) | exact sk11 (by omega)) rfl ?_
      refine am_iload_n (i := 1) dM_simplifyOne_56 rfl rfl ?_
      refine am_iald dM_simplifyOne_57 (by first | rfl | exact sk8 (by omega) | exact sk9 (by omega) | exact sk10 (by omega) | exact sk11 (by omega)) rfl (by first | omega | assumption | decide) (by decide) (by decide) (by first | exact congrArg am_I ((mkd_lo (by omega)).trans (up2_eq _ _ _ _)) | exact congrArg am_I ((mkd_lo (by omega)).trans ((up2_k (by decide)).trans (up2_eq _ _ _ _))) | exact congrArg am_I ((mkd_lo (by omega)).trans ((up2_k (by decide)).trans (up2_k (by decide)))) | exact congrArg am_I ((mkd_lo (by omega)).trans (up2_k (by decide))) | exact congrArg am_I (mkd_lo (by omega)) | rfl) ?_
      refine am_iconst (v := 3) dM_simplifyOne_58 (by decide) ?_
      refine am_icmp_lt (tgt := 113) dM_simplifyOne_59 (by decide) (fun c59 => ?_) (fun c59 => ?_)
      · have m3 : q_r3 st P v = st (ix (P v 3)) := by
          unfold q_r3
          rw [if_neg n3]
        have m4 : q_r4 st P v = st (ix (P v 4)) := by
          unfold q_r4
          rw [if_neg n4]
        have hsw : ¬ q_sw st P v := fun q => by have := q.1; grind
        refine am_hT (h' := (hm X (ym A (q_rep st P v) st mk pa ce wd us (nI n) si))) ?_ (KR _)
        congr 2
        unfold q_rep
        rw [if_neg hsw, if_neg hsw]
        rw [m3, m4]
        first
          | done
          | (funext u z; unfold up2; grind)
      · refine am_aload_n (i := 0) dM_simplifyOne_62 rfl rfl ?_
        refine am_getf dM_simplifyOne_63 flM_7 (by first | rfl | exact sk8 (by omega) | exact sk9 (by omega) | exact sk10 (by omega) | exact sk11 (by omega)) rfl ?_
        refine am_iload_n (i := 1) dM_simplifyOne_66 rfl rfl ?_
        refine am_iald dM_simplifyOne_67 (by first | rfl | exact sk8 (by omega) | exact sk9 (by omega) | exact sk10 (by omega) | exact sk11 (by omega)) rfl (by first | omega | assumption | decide) (by decide) (by decide) (by first | exact congrArg am_I ((mkd_lo (by omega)).trans (up2_eq _ _ _ _)) | exact congrArg am_I ((mkd_lo (by omega)).trans ((up2_k (by decide)).trans (up2_eq _ _ _ _))) | exact congrArg am_I ((mkd_lo (by omega)).trans ((up2_k (by decide)).trans (up2_k (by decide)))) | exact congrArg am_I ((mkd_lo (by omega)).trans (up2_k (by decide))) | exact congrArg am_I (mkd_lo (by omega)) | rfl) ?_
        refine am_iconst (v := 5) dM_simplifyOne_68 (by decide) ?_
        refine am_icmp_gt (tgt := 113) dM_simplifyOne_69 (by decide) (fun c69 => ?_) (fun c69 => ?_)
        · have m3 : q_r3 st P v = st (ix (P v 3)) := by
            unfold q_r3
            rw [if_neg n3]
          have m4 : q_r4 st P v = st (ix (P v 4)) := by
            unfold q_r4
            rw [if_neg n4]
          have hsw : ¬ q_sw st P v := fun q => by have := q.1; grind
          refine am_hT (h' := (hm X (ym A (q_rep st P v) st mk pa ce wd us (nI n) si))) ?_ (KR _)
          congr 2
          unfold q_rep
          rw [if_neg hsw, if_neg hsw]
          rw [m3, m4]
          first
            | done
            | (funext u z; unfold up2; grind)
        · refine am_aload_n (i := 0) dM_simplifyOne_72 rfl rfl ?_
          refine am_getf dM_simplifyOne_73 flM_13 (by first | rfl | exact sk8 (by omega) | exact sk9 (by omega) | exact sk10 (by omega) | exact sk11 (by omega)) rfl ?_
          refine am_iload_n (i := 1) dM_simplifyOne_76 rfl rfl ?_
          refine am_iald dM_simplifyOne_77 (by first | rfl | exact sk8 (by omega) | exact sk9 (by omega) | exact sk10 (by omega) | exact sk11 (by omega)) rfl (by first | omega | assumption | decide) (by decide) (by decide) (by first | exact congrArg am_I ((mkd_lo (by omega)).trans (up2_eq _ _ _ _)) | exact congrArg am_I ((mkd_lo (by omega)).trans ((up2_k (by decide)).trans (up2_eq _ _ _ _))) | exact congrArg am_I ((mkd_lo (by omega)).trans ((up2_k (by decide)).trans (up2_k (by decide)))) | exact congrArg am_I ((mkd_lo (by omega)).trans (up2_k (by decide))) | exact congrArg am_I (mkd_lo (by omega)) | rfl) ?_
          refine am_aload_n (i := 0) dM_simplifyOne_78 rfl rfl ?_
          refine am_getf dM_simplifyOne_79 flM_16 (by first | rfl | exact sk8 (by omega) | exact sk9 (by omega) | exact sk10 (by omega) | exact sk11 (by omega)) rfl ?_
          refine am_iload_n (i := 1) dM_simplifyOne_82 rfl rfl ?_
          refine am_iald dM_simplifyOne_83 (by first | rfl | exact sk8 (by omega) | exact sk9 (by omega) | exact sk10 (by omega) | exact sk11 (by omega)) rfl (by first | omega | assumption | decide) (by decide) (by decide) (by first | exact congrArg am_I ((mkd_lo (by omega)).trans (up2_eq _ _ _ _)) | exact congrArg am_I ((mkd_lo (by omega)).trans ((up2_k (by decide)).trans (up2_eq _ _ _ _))) | exact congrArg am_I ((mkd_lo (by omega)).trans ((up2_k (by decide)).trans (up2_k (by decide)))) | exact congrArg am_I ((mkd_lo (by omega)).trans (up2_k (by decide))) | exact congrArg am_I (mkd_lo (by omega)) | rfl) ?_
          refine am_icmp_le (tgt := 113) dM_simplifyOne_84 (by decide) (fun c84 => ?_) (fun c84 => ?_)
          · have m3 : q_r3 st P v = st (ix (P v 3)) := by
              unfold q_r3
              rw [if_neg n3]
            have m4 : q_r4 st P v = st (ix (P v 4)) := by
              unfold q_r4
              rw [if_neg n4]
            have hsw : ¬ q_sw st P v := fun q => q.2 (by rw [m3, m4]; first | exact c84 | (rw [← p3]; exact c84) | (rw [← p4]; exact c84) | (rw [p3, p4] at c84; exact c84))
            refine am_hT (h' := (hm X (ym A (q_rep st P v) st mk pa ce wd us (nI n) si))) ?_ (KR _)
            congr 2
            unfold q_rep
            rw [if_neg hsw, if_neg hsw]
            rw [m3, m4]
            first
              | done
              | (funext u z; unfold up2; grind)
          · refine am_aload_n (i := 0) dM_simplifyOne_87 rfl rfl ?_
            refine am_getf dM_simplifyOne_88 flM_13 (by first | rfl | exact sk8 (by omega) | exact sk9 (by omega) | exact sk10 (by omega) | exact sk11 (by omega)) rfl ?_
            refine am_iload_n (i := 1) dM_simplifyOne_91 rfl rfl ?_
            refine am_iald dM_simplifyOne_92 (by first | rfl | exact sk8 (by omega) | exact sk9 (by omega) | exact sk10 (by omega) | exact sk11 (by omega)) rfl (by first | omega | assumption | decide) (by decide) (by decide) (by first | exact congrArg am_I ((mkd_lo (by omega)).trans (up2_eq _ _ _ _)) | exact congrArg am_I ((mkd_lo (by omega)).trans ((up2_k (by decide)).trans (up2_eq _ _ _ _))) | exact congrArg am_I ((mkd_lo (by omega)).trans ((up2_k (by decide)).trans (up2_k (by decide)))) | exact congrArg am_I ((mkd_lo (by omega)).trans (up2_k (by decide))) | exact congrArg am_I (mkd_lo (by omega)) | rfl) ?_
            refine am_istore_n (i := 2) dM_simplifyOne_93 rfl (by decide) ?_
            refine am_aload_n (i := 0) dM_simplifyOne_94 rfl rfl ?_
            refine am_getf dM_simplifyOne_95 flM_13 (by first | rfl | exact sk8 (by omega) | exact sk9 (by omega) | exact sk10 (by omega) | exact sk11 (by omega)) rfl ?_
            refine am_iload_n (i := 1) dM_simplifyOne_98 rfl rfl ?_
            refine am_aload_n (i := 0) dM_simplifyOne_99 rfl rfl ?_
            refine am_getf dM_simplifyOne_100 flM_16 (by first | rfl | exact sk8 (by omega) | exact sk9 (by omega) | exact sk10 (by omega) | exact sk11 (by omega)) rfl ?_
            refine am_iload_n (i := 1) dM_simplifyOne_103 rfl rfl ?_
            refine am_iald dM_simplifyOne_104 (by first | rfl | exact sk8 (by omega) | exact sk9 (by omega) | exact sk10 (by omega) | exact sk11 (by omega)) rfl (by first | omega | assumption | decide) (by decide) (by decide) (by first | exact congrArg am_I ((mkd_lo (by omega)).trans (up2_eq _ _ _ _)) | exact congrArg am_I ((mkd_lo (by omega)).trans ((up2_k (by decide)).trans (up2_eq _ _ _ _))) | exact congrArg am_I ((mkd_lo (by omega)).trans ((up2_k (by decide)).trans (up2_k (by decide)))) | exact congrArg am_I ((mkd_lo (by omega)).trans (up2_k (by decide))) | exact congrArg am_I (mkd_lo (by omega)) | rfl) ?_
            refine am_iast' dM_simplifyOne_105 (by first | rfl | exact sk8 (by omega) | exact sk9 (by omega) | exact sk10 (by omega) | exact sk11 (by omega)) rfl (by first | omega | assumption | decide) (by decide) (by decide) (by first | exact wm_kd (by omega) | exact wm_kh (by omega) | exact wm_fi (by omega) | exact wm_fh (by omega) | exact wm_se (by omega) | exact wm_sh (by omega) | exact wm_np (by omega) | exact wm_ph (by omega) | exact wm_nq (by omega) | exact wm_qh (by omega) | exact wm_ro | exact wm_co | exact wm_mm | exact wm_sd | exact wm_pa | exact wm_ce | exact wm_wd | exact wm_ud | exact wm_vn | exact wm_sm) ?_
            refine am_aload_n (i := 0) dM_simplifyOne_106 rfl rfl ?_
            refine am_getf dM_simplifyOne_107 flM_16 (by first | rfl | exact sk8 (by omega) | exact sk9 (by omega) | exact sk10 (by omega) | exact sk11 (by omega)) rfl ?_
            refine am_iload_n (i := 1) dM_simplifyOne_110 rfl rfl ?_
            refine am_iload_n (i := 2) dM_simplifyOne_111 rfl rfl ?_
            refine am_iast' dM_simplifyOne_112 (by first | rfl | exact sk8 (by omega) | exact sk9 (by omega) | exact sk10 (by omega) | exact sk11 (by omega)) rfl (by first | omega | assumption | decide) (by decide) (by decide) (by first | exact wm_kd (by omega) | exact wm_kh (by omega) | exact wm_fi (by omega) | exact wm_fh (by omega) | exact wm_se (by omega) | exact wm_sh (by omega) | exact wm_np (by omega) | exact wm_ph (by omega) | exact wm_nq (by omega) | exact wm_qh (by omega) | exact wm_ro | exact wm_co | exact wm_mm | exact wm_sd | exact wm_pa | exact wm_ce | exact wm_wd | exact wm_ud | exact wm_vn | exact wm_sm) ?_
            have m3 : q_r3 st P v = st (ix (P v 3)) := by
              unfold q_r3
              rw [if_neg n3]
            have m4 : q_r4 st P v = st (ix (P v 4)) := by
              unfold q_r4
              rw [if_neg n4]
            have hsw : q_sw st P v := ⟨q_345 hkd c59 c69, by rw [m3, m4]; first | exact c84 | (rw [← p3]; exact c84) | (rw [← p4]; exact c84) | (rw [p3, p4] at c84; exact c84)⟩
            refine am_hT (h' := (hm X (ym A (q_rep st P v) st mk pa ce wd us (nI n) si))) ?_ (KR _)
            congr 2
            unfold q_rep
            rw [if_pos hsw, if_pos hsw]
            rw [m3, m4]
            first
              | done
              | (funext u z; unfold up2; grind)
