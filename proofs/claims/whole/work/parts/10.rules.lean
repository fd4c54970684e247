/-! ===== one step of simplifying, pure ===== -/
def q_spt (P : Nat → Nat → Int32) (v : Nat) (x : Int32) : Nat → Nat → Int32 := up2 (up2 (up2 (up2 (up2 P v 0 1) v 3 (-1)) v 4 (-1)) v 5 x) v 6 0
def q_alr (st : Nat → Int32) (P : Nat → Nat → Int32) (v : Nat) : Nat → Nat → Nat
  | 0, _ => v
  | j + 1, i => if st i = nI i ∧ q_like P i v then i else q_alr st P v j (i + 1)
def q_al (st : Nat → Int32) (P : Nat → Nat → Int32) (v : Nat) : Nat := q_alr st P v v 0
theorem q_alr_hit {st : Nat → Int32} {P : Nat → Nat → Int32} {v u : Nat} (hl : st u = nI u ∧ q_like P u v) : ∀ (j i : Nat), i ≤ u → u < i + j → (∀ w, i ≤ w → w < u → ¬ (st w = nI w ∧ q_like P w v)) → q_alr st P v j i = u := by
  intro j
  induction j with
  | zero => intro i h1 h2; omega
  | succ j ih =>
    intro i h1 h2 hn
    unfold q_alr
    by_cases e : i = u
    · subst e
      rw [if_pos hl]
    · rw [if_neg (hn i (Nat.le_refl _) (by omega))]
      exact ih (i + 1) (by omega) (by omega) (fun w a b => hn w (by omega) b)
theorem q_alr_none {st : Nat → Int32} {P : Nat → Nat → Int32} {v : Nat} : ∀ (j i : Nat), (∀ w, i ≤ w → w < i + j → ¬ (st w = nI w ∧ q_like P w v)) → q_alr st P v j i = v := by
  intro j
  induction j with
  | zero => intro i _; rfl
  | succ j ih =>
    intro i hn
    unfold q_alr
    rw [if_neg (hn i (Nat.le_refl _) (by omega))]
    exact ih (i + 1) (fun w a b => hn w (by omega) (by omega))
theorem q_al_hit {st : Nat → Int32} {P : Nat → Nat → Int32} {v u : Nat} (hu : u < v) (hs : st u = nI u) (hl : q_like P u v) (hn : ∀ w, w < u → ¬ (st w = nI w ∧ q_like P w v)) : q_al st P v = u := q_alr_hit ⟨hs, hl⟩ v 0 (by omega) (by omega) (fun w _ b => hn w b)
theorem q_al_none {st : Nat → Int32} {P : Nat → Nat → Int32} {v : Nat} (hn : ∀ w, w < v → ¬ (st w = nI w ∧ q_like P w v)) : q_al st P v = v := q_alr_none v 0 (fun w _ b => hn w (by omega))
abbrev q_z3 (P : Nat → Nat → Int32) (v : Nat) : Prop := P v 0 = 4 ∧ (q_spl P (P v 3) 0 ∨ q_spl P (P v 4) 0)
abbrev q_z4 (P : Nat → Nat → Int32) (v : Nat) : Prop := P v 0 = 5 ∧ P v 3 = P v 4
def q_rul (P : Nat → Nat → Int32) (v : Nat) : Nat := if q_only P v then 1 else if ¬ q_neut P v = -1 then 2 else if q_z3 P v then 3 else if q_z4 P v then 4 else if ¬ q_twi P v = -1 then 5 else 0
def q_tab (P : Nat → Nat → Int32) (v : Nat) : Nat → Nat → Int32 := if q_rul P v = 1 then q_spt P v (q_foldV P v) else if q_rul P v = 3 then q_spt P v 0 else if q_rul P v = 5 ∧ ¬ q_shp P v (ix (q_twi P v)) then up2 P v 3 (q_twi P v) else P
def q_dir (P : Nat → Nat → Int32) (v : Nat) : Int32 := if q_rul P v = 2 then q_neut P v else if q_rul P v = 4 then P v 3 else if q_rul P v = 5 ∧ q_shp P v (ix (q_twi P v)) then q_twi P v else -1
def q_std (st : Nat → Int32) (P : Nat → Nat → Int32) (v : Nat) : Int32 := if q_dir P v = -1 then nI (q_al st (q_tab P v) v) else q_dir P v
def q_us1 (P : Nat → Nat → Int32) (us : Nat → Int32) (v : Nat) : Nat → Int32 := if q_rul P v = 0 then us else upd us (q_rul P v) (us (q_rul P v) + 1)
def q_use (st : Nat → Int32) (P : Nat → Nat → Int32) (us : Nat → Int32) (v : Nat) : Nat → Int32 := if q_dir P v = -1 ∧ ¬ q_al st (q_tab P v) v = v then upd (q_us1 P us v) 6 (q_us1 P us v 6 + 1) else q_us1 P us v
theorem ru1 {P : Nat → Nat → Int32} {v : Nat} (h : q_only P v) : q_rul P v = 1 := by unfold q_rul; rw [if_pos h]
theorem ru2 {P : Nat → Nat → Int32} {v : Nat} (h1 : ¬ q_only P v) (h2 : ¬ q_neut P v = -1) : q_rul P v = 2 := by unfold q_rul; rw [if_neg h1, if_pos h2]
theorem ru3 {P : Nat → Nat → Int32} {v : Nat} (h1 : ¬ q_only P v) (h2 : q_neut P v = -1) (h3 : q_z3 P v) : q_rul P v = 3 := by unfold q_rul; rw [if_neg h1, if_neg (fun q => q h2), if_pos h3]
theorem ru4 {P : Nat → Nat → Int32} {v : Nat} (h1 : ¬ q_only P v) (h2 : q_neut P v = -1) (h3 : ¬ q_z3 P v) (h4 : q_z4 P v) : q_rul P v = 4 := by unfold q_rul; rw [if_neg h1, if_neg (fun q => q h2), if_neg h3, if_pos h4]
theorem ru5 {P : Nat → Nat → Int32} {v : Nat} (h1 : ¬ q_only P v) (h2 : q_neut P v = -1) (h3 : ¬ q_z3 P v) (h4 : ¬ q_z4 P v) (h5 : ¬ q_twi P v = -1) : q_rul P v = 5 := by unfold q_rul; rw [if_neg h1, if_neg (fun q => q h2), if_neg h3, if_neg h4, if_pos h5]
theorem ru0 {P : Nat → Nat → Int32} {v : Nat} (h1 : ¬ q_only P v) (h2 : q_neut P v = -1) (h3 : ¬ q_z3 P v) (h4 : ¬ q_z4 P v) (h5 : q_twi P v = -1) : q_rul P v = 0 := by unfold q_rul; rw [if_neg h1, if_neg (fun q => q h2), if_neg h3, if_neg h4, if_neg (fun q => q h5)]
theorem upd_i {f : Nat → Int32} {k j : Nat} {x : Int32} (h : j ≠ k) : upd f k x j = f j := if_neg h
/-- what a step gives, by its rule -/
theorem q_out {st us : Nat → Int32} {P T : Nat → Nat → Int32} {v r : Nat} {y : Int32} (hr : q_rul P v = r) (ht : q_tab P v = T) (hd : q_dir P v = y) :
    (q_std st P v = if y = -1 then nI (q_al st T v) else y) ∧ (q_use st P us v = if y = -1 ∧ ¬ q_al st T v = v then upd (if r = 0 then us else upd us r (us r + 1)) 6 ((if r = 0 then us else upd us r (us r + 1)) 6 + 1) else (if r = 0 then us else upd us r (us r + 1))) := by
  subst hr; subst ht; subst hd
  exact ⟨rfl, rfl⟩
set_option maxRecDepth 100000 in
set_option maxHeartbeats 4000000 in
theorem cC_standInByRules {g : am_G} {d : Nat} {Q : Option am_V → am_H → Prop} {Y : Nat → Nat → Nat → am_V} {A P : Nat → Nat → Int32} {st mk lv : Nat → Int32} {cl pr : Nat → Nat → Int32} {us : Nat → Int32} {va si wk : Int32} {v : Nat} (hv : v < 28) (h3 : q_arg (P v 3) v) (h4 : q_arg (P v 4) v) (hq3 : 2 < P v 0 → ¬ P v 3 = -1) (hq4 : (P v 0 = 3 ∨ P v 0 = 4 ∨ P v 0 = 5 ∨ P v 0 = 8) → ¬ P v 4 = -1) (hr : ∀ u, u < v → q_arg (P u 3) u) (k : ∀ x T U, x = q_std st P v → T = q_tab P v → U = q_use st P us v → Q (some (am_I x)) (hm (xc A T st mk lv cl pr U va si wk) Y)) : am_C g mC_standInByRules (d + 3) 0 0 [am_O 0 0, am_I (nI v)] (hm (xc A P st mk lv cl pr us va si wk) Y) Q := by
  refine am_enter (lv := [some (am_O 0 0), some (am_I (nI v)), none, none, none]) rfl rfl (am_cat1 rfl) (Nat.le_of_ble_eq_true rfl) ?_
  refine am_aload_n (i := 0) dC_standInByRules_0 rfl rfl ?_
  refine am_getf dC_standInByRules_1 flC_15 (by first | rfl | exact sk8 (by omega) | exact sk9 (by omega) | exact sk10 (by omega) | exact sk11 (by omega)) rfl ?_
  refine am_iload_n (i := 1) dC_standInByRules_4 rfl rfl ?_
  refine am_aald dC_standInByRules_5 (by first | rfl | exact sk8 (by omega) | exact sk9 (by omega) | exact sk10 (by omega) | exact sk11 (by omega)) rfl (by first | omega | assumption | decide) (by decide) (by decide) rfl rfl ?_
  refine am_astore_n (i := 2) dC_standInByRules_6 rfl (by decide) ?_
  refine am_aload_n (i := 0) dC_standInByRules_7 rfl rfl ?_
  refine am_aload_n (i := 2) dC_standInByRules_8 rfl rfl ?_
  refine am_callV (ac' := 0) (as' := 0) (xs := [_]) dC_standInByRules_9 lkC_169 (by first | rfl | exact sk8 (by omega) | exact sk9 (by omega) | exact sk10 (by omega) | exact sk11 (by omega)) rfl rfl rfl rfl (Nat.le_of_ble_eq_true rfl) rfl rfl (cC_hasOnlySplats hv h3 h4 (fun co => ?_) (fun co => ?_))
  · refine am_if_eq_F (tgt := 40) dC_standInByRules_12 (by decide) (by decide) ?_
    refine am_aload_n (i := 0) dC_standInByRules_15 rfl rfl ?_
    refine am_getf dC_standInByRules_16 flC_37 (by first | rfl | exact sk8 (by omega) | exact sk9 (by omega) | exact sk10 (by omega) | exact sk11 (by omega)) rfl ?_
    refine am_iconst (v := 1) dC_standInByRules_19 (by decide) ?_
    refine am_dup2 dC_standInByRules_20 rfl rfl ?_
    refine am_iald dC_standInByRules_21 (by first | rfl | exact sk8 (by omega) | exact sk9 (by omega) | exact sk10 (by omega) | exact sk11 (by omega)) (show (1 : Int32) = nI 1 from rfl) (by first | omega | assumption | decide) (by decide) (by decide) rfl ?_
    refine am_iconst (v := 1) dC_standInByRules_22 (by decide) ?_
    refine am_iadd dC_standInByRules_23 ?_
    refine am_iast' dC_standInByRules_24 (by first | rfl | exact sk8 (by omega) | exact sk9 (by omega) | exact sk10 (by omega) | exact sk11 (by omega)) (show (1 : Int32) = nI 1 from rfl) (by first | omega | assumption | decide) (by decide) (by decide) (by first | exact wx_st | exact wx_mk | exact wx_lv | exact wx_us | exact wx_A | exact wx_P | exact wx_cl | exact wx_pr | exact wx_va | exact wx_si | exact wx_wk) ?_
    refine am_aload_n (i := 2) dC_standInByRules_25 rfl rfl ?_
    refine am_aload_n (i := 0) dC_standInByRules_26 rfl rfl ?_
    refine am_aload_n (i := 2) dC_standInByRules_27 rfl rfl ?_
    refine am_callV (ac' := 0) (as' := 0) (xs := [_]) dC_standInByRules_28 lkC_172 (by first | rfl | exact sk8 (by omega) | exact sk9 (by omega) | exact sk10 (by omega) | exact sk11 (by omega)) rfl rfl rfl rfl (Nat.le_of_ble_eq_true rfl) rfl rfl (cC_foldedCell hv h3 h4 co.1 (fun xf ef => ?_))
    refine am_callV (ac' := 0) (as' := 0) (xs := [_]) dC_standInByRules_31 lkC_175 (by first | rfl | exact sk8 (by omega) | exact sk9 (by omega) | exact sk10 (by omega) | exact sk11 (by omega)) rfl rfl rfl rfl (Nat.le_of_ble_eq_true rfl) rfl rfl (cO_becomeSplat hv ?_)
    refine am_aload_n (i := 0) dC_standInByRules_34 rfl rfl ?_
    refine am_iload_n (i := 1) dC_standInByRules_35 rfl rfl ?_
    refine am_callV (ac' := 0) (as' := 0) (xs := [_]) dC_standInByRules_36 lkC_178 (by first | rfl | exact sk8 (by omega) | exact sk9 (by omega) | exact sk10 (by omega) | exact sk11 (by omega)) rfl rfl rfl rfl (Nat.le_of_ble_eq_true rfl) rfl rfl (cC_alikeOrItself hv (fun u hu hsu hlu hnu => ?_) (fun hnu => ?_))
    · refine am_iret (st := []) rfl rfl dC_standInByRules_39 ?_
      have hr1 : q_rul P v = 1 := ru1 co
      have ht : q_tab P v = q_spt P v xf := by unfold q_tab; rw [if_pos hr1, ← ef]
      have hd : q_dir P v = -1 := by unfold q_dir; rw [if_neg (by omega), if_neg (by omega), if_neg (fun q => by omega)]
      obtain ⟨o1, o2⟩ := q_out (st := st) (us := us) hr1 ht hd
      have ha : q_al st (q_spt P v xf) v = _ := q_al_hit hu hsu hlu hnu
      exact k _ _ _ (by rw [o1, if_pos rfl, ha]) ht.symm (by rw [o2, if_pos ⟨rfl, by rw [ha]; omega⟩]; rfl)
    · refine am_iret (st := []) rfl rfl dC_standInByRules_39 ?_
      have hr1 : q_rul P v = 1 := ru1 co
      have ht : q_tab P v = q_spt P v xf := by unfold q_tab; rw [if_pos hr1, ← ef]
      have hd : q_dir P v = -1 := by unfold q_dir; rw [if_neg (by omega), if_neg (by omega), if_neg (fun q => by omega)]
      obtain ⟨o1, o2⟩ := q_out (st := st) (us := us) hr1 ht hd
      have ha : q_al st (q_spt P v xf) v = _ := q_al_none hnu
      exact k _ _ _ (by rw [o1, if_pos rfl, ha]) ht.symm (by rw [o2, if_neg (fun q => q.2 ha)]; rfl)
  · refine am_if_eq_T (tgt := 40) dC_standInByRules_12 (by decide) (by decide) ?_
    refine am_aload_n (i := 0) dC_standInByRules_40 rfl rfl ?_
    refine am_aload_n (i := 2) dC_standInByRules_41 rfl rfl ?_
    refine am_callV (ac' := 0) (as' := 0) (xs := [_]) dC_standInByRules_42 lkC_181 (by first | rfl | exact sk8 (by omega) | exact sk9 (by omega) | exact sk10 (by omega) | exact sk11 (by omega)) rfl rfl rfl rfl (Nat.le_of_ble_eq_true rfl) rfl rfl (cC_neutralOther hv h3 h4 hq3 hq4 (fun x2 e2 => ?_))
    refine am_istore_n (i := 3) dC_standInByRules_45 rfl (by decide) ?_
    refine am_iload_n (i := 3) dC_standInByRules_46 rfl rfl ?_
    refine am_iconst (v := (-1)) dC_standInByRules_47 (by decide) ?_
    refine am_icmp_eq (tgt := 63) dC_standInByRules_48 (by decide) (fun c48 => ?_) (fun c48 => ?_)
    · refine am_aload_n (i := 2) dC_standInByRules_63 rfl rfl ?_
      refine am_getf dC_standInByRules_64 flC_129 (by first | rfl | exact sk8 (by omega) | exact sk9 (by omega) | exact sk10 (by omega) | exact sk11 (by omega)) rfl ?_
      refine am_iconst (v := 4) dC_standInByRules_67 (by decide) ?_
      refine am_icmp_ne (tgt := 116) dC_standInByRules_68 (by decide) (fun c68 => ?_) (fun c68 => ?_)
      · refine am_aload_n (i := 2) dC_standInByRules_116 rfl rfl ?_
        refine am_getf dC_standInByRules_117 flC_129 (by first | rfl | exact sk8 (by omega) | exact sk9 (by omega) | exact sk10 (by omega) | exact sk11 (by omega)) rfl ?_
        refine am_iconst (v := 5) dC_standInByRules_120 (by decide) ?_
        refine am_icmp_ne (tgt := 150) dC_standInByRules_121 (by decide) (fun c121 => ?_) (fun c121 => ?_)
        · have htw : ¬ P v 3 = -1 ∨ ¬ (P v 0 = 6 ∨ P v 0 = 7 ∨ P v 0 = 11) := by
            by_cases hz : P v 0 = 6 ∨ P v 0 = 7 ∨ P v 0 = 11
            · exact Or.inl (hq3 (by rcases hz with q | q | q <;> exact k2_of _ q (by decide)))
            · exact Or.inr hz
          refine am_aload_n (i := 0) dC_standInByRules_150 rfl rfl ?_
          refine am_aload_n (i := 2) dC_standInByRules_151 rfl rfl ?_
          refine am_callV (ac' := 0) (as' := 0) (xs := [_]) dC_standInByRules_152 lkC_187 (by first | rfl | exact sk8 (by omega) | exact sk9 (by omega) | exact sk10 (by omega) | exact sk11 (by omega)) rfl rfl rfl rfl (Nat.le_of_ble_eq_true rfl) rfl rfl (cC_twiceInner hv h3 h4 htw (fun x5 e5' => ?_))
          have e5 : x5 = q_twi P v := e5'
          refine am_istore (i := 4) dC_standInByRules_155 (by decide) ?_
          refine am_iload (i := 4) dC_standInByRules_157 rfl ?_
          refine am_iconst (v := (-1)) dC_standInByRules_159 (by decide) ?_
          refine am_icmp_eq (tgt := 196) dC_standInByRules_160 (by decide) (fun c160 => ?_) (fun c160 => ?_)
          · refine am_aload_n (i := 0) dC_standInByRules_196 rfl rfl ?_
            refine am_iload_n (i := 1) dC_standInByRules_197 rfl rfl ?_
            refine am_callV (ac' := 0) (as' := 0) (xs := [_]) dC_standInByRules_198 lkC_178 (by first | rfl | exact sk8 (by omega) | exact sk9 (by omega) | exact sk10 (by omega) | exact sk11 (by omega)) rfl rfl rfl rfl (Nat.le_of_ble_eq_true rfl) rfl rfl (cC_alikeOrItself hv (fun u hu hsu hlu hnu => ?_) (fun hnu => ?_))
            · refine am_iret (st := []) rfl rfl dC_standInByRules_201 ?_
              have hr5 : q_rul P v = 0 := ru0 co (e2 ▸ c48) (by grind) (by grind) (e5 ▸ c160)
              have ht : q_tab P v = P := by unfold q_tab; rw [if_neg (by omega), if_neg (by omega), if_neg (fun q => by omega)]
              have hd : q_dir P v = -1 := by unfold q_dir; rw [if_neg (by omega), if_neg (by omega), if_neg (fun q => by omega)]
              obtain ⟨o1, o2⟩ := q_out (st := st) (us := us) hr5 ht hd
              have ha : q_al st P v = _ := q_al_hit hu hsu hlu hnu
              exact k _ _ _ (by rw [o1, if_pos rfl, ha]) ht.symm (by rw [o2, if_pos ⟨rfl, by rw [ha]; omega⟩]; rfl)
            · refine am_iret (st := []) rfl rfl dC_standInByRules_201 ?_
              have hr5 : q_rul P v = 0 := ru0 co (e2 ▸ c48) (by grind) (by grind) (e5 ▸ c160)
              have ht : q_tab P v = P := by unfold q_tab; rw [if_neg (by omega), if_neg (by omega), if_neg (fun q => by omega)]
              have hd : q_dir P v = -1 := by unfold q_dir; rw [if_neg (by omega), if_neg (by omega), if_neg (fun q => by omega)]
              obtain ⟨o1, o2⟩ := q_out (st := st) (us := us) hr5 ht hd
              have ha : q_al st P v = _ := q_al_none hnu
              exact k _ _ _ (by rw [o1, if_pos rfl, ha]) ht.symm (by rw [o2, if_neg (fun q => q.2 ha)]; rfl)
          · have gi : q_arg x5 (ix (P v 3)) := by
              rw [e5']
              split
              · split
                · exact hr _ (h3.ix (hq3 (by rename_i hz _; rcases hz with q | q | q <;> exact k2_of _ q (by decide))) (by omega)).1
                · exact Or.inl rfl
              · exact Or.inl rfl
            have g3 : ix (P v 3) < 28 := by
              by_cases hz : P v 3 = -1
              · rw [hz]; decide
              · have := (h3.ix hz (by omega)).1; omega
            have ein := gi.ix (show ¬ x5 = -1 from c160) (by omega)
            refine am_aload_n (i := 0) dC_standInByRules_163 rfl rfl ?_
            refine am_getf dC_standInByRules_164 flC_37 (by first | rfl | exact sk8 (by omega) | exact sk9 (by omega) | exact sk10 (by omega) | exact sk11 (by omega)) rfl ?_
            refine am_iconst (v := 5) dC_standInByRules_167 (by decide) ?_
            refine am_dup2 dC_standInByRules_168 rfl rfl ?_
            refine am_iald dC_standInByRules_169 (by first | rfl | exact sk8 (by omega) | exact sk9 (by omega) | exact sk10 (by omega) | exact sk11 (by omega)) (show (5 : Int32) = nI 5 from rfl) (by first | omega | assumption | decide) (by decide) (by decide) rfl ?_
            refine am_iconst (v := 1) dC_standInByRules_170 (by decide) ?_
            refine am_iadd dC_standInByRules_171 ?_
            refine am_iast' dC_standInByRules_172 (by first | rfl | exact sk8 (by omega) | exact sk9 (by omega) | exact sk10 (by omega) | exact sk11 (by omega)) (show (5 : Int32) = nI 5 from rfl) (by first | omega | assumption | decide) (by decide) (by decide) (by first | exact wx_st | exact wx_mk | exact wx_lv | exact wx_us | exact wx_A | exact wx_P | exact wx_cl | exact wx_pr | exact wx_va | exact wx_si | exact wx_wk) ?_
            refine am_aload_n (i := 2) dC_standInByRules_173 rfl rfl ?_
            refine am_aload_n (i := 0) dC_standInByRules_174 rfl rfl ?_
            refine am_getf dC_standInByRules_175 flC_15 (by first | rfl | exact sk8 (by omega) | exact sk9 (by omega) | exact sk10 (by omega) | exact sk11 (by omega)) rfl ?_
            refine am_iload (i := 4) dC_standInByRules_178 rfl ?_
            refine am_aald dC_standInByRules_180 (by first | rfl | exact sk8 (by omega) | exact sk9 (by omega) | exact sk10 (by omega) | exact sk11 (by omega)) ein.2 (by first | omega | assumption | decide) (by decide) (by decide) rfl rfl ?_
            refine am_callV (ac' := 0) (as' := 0) (xs := [_]) dC_standInByRules_181 lkC_147 (by first | rfl | exact sk8 (by omega) | exact sk9 (by omega) | exact sk10 (by omega) | exact sk11 (by omega)) rfl rfl rfl rfl (Nat.le_of_ble_eq_true rfl) rfl rfl (cO_hasShapeOf9 hv (by omega) (fun cs => ?_) (fun cs => ?_))
            · refine am_if_eq_F (tgt := 190) dC_standInByRules_184 (by decide) (by decide) ?_
              refine am_iload (i := 4) dC_standInByRules_187 rfl ?_
              refine am_iret (st := []) rfl rfl dC_standInByRules_189 ?_
              have hr5 : q_rul P v = 5 := ru5 co (e2 ▸ c48) (by grind) (by grind) (fun q => c160 (e5.trans q))
              obtain ⟨o1, o2⟩ := q_out (st := st) (us := us) (T := P) (y := x5) hr5 (by unfold q_tab; rw [if_neg (by omega), if_neg (by omega), if_neg (fun q => q.2 (e5 ▸ cs))]) (by unfold q_dir; rw [if_neg (by omega), if_neg (by omega), if_pos ⟨hr5, e5 ▸ cs⟩, e5])
              exact k _ _ _ (by rw [o1, if_neg c160]) (by unfold q_tab; rw [if_neg (by omega), if_neg (by omega), if_neg (fun q => q.2 (e5 ▸ cs))]) (by rw [o2, if_neg (fun q => c160 q.1)]; rfl)
            · refine am_if_eq_T (tgt := 190) dC_standInByRules_184 (by decide) (by decide) ?_
              refine am_aload_n (i := 2) dC_standInByRules_190 rfl rfl ?_
              refine am_iload (i := 4) dC_standInByRules_191 rfl ?_
              refine am_putf' dC_standInByRules_193 flC_132 (by first | rfl | exact sk8 (by omega) | exact sk9 (by omega) | exact sk10 (by omega) | exact sk11 (by omega)) rfl (fun _ => ⟨rfl, rfl⟩) (by first | exact wx_st | exact wx_mk | exact wx_lv | exact wx_us | exact wx_A | exact wx_P | exact wx_cl | exact wx_pr | exact wx_va | exact wx_si | exact wx_wk) ?_
              refine am_aload_n (i := 0) dC_standInByRules_196 rfl rfl ?_
              refine am_iload_n (i := 1) dC_standInByRules_197 rfl rfl ?_
              refine am_callV (ac' := 0) (as' := 0) (xs := [_]) dC_standInByRules_198 lkC_178 (by first | rfl | exact sk8 (by omega) | exact sk9 (by omega) | exact sk10 (by omega) | exact sk11 (by omega)) rfl rfl rfl rfl (Nat.le_of_ble_eq_true rfl) rfl rfl (cC_alikeOrItself hv (fun u hu hsu hlu hnu => ?_) (fun hnu => ?_))
              · refine am_iret (st := []) rfl rfl dC_standInByRules_201 ?_
                have hr5 : q_rul P v = 5 := ru5 co (e2 ▸ c48) (by grind) (by grind) (fun q => c160 (e5.trans q))
                have ht : q_tab P v = up2 P v 3 x5 := by unfold q_tab; rw [if_neg (by omega), if_neg (by omega), if_pos ⟨hr5, e5 ▸ cs⟩, e5]
                have hd : q_dir P v = -1 := by unfold q_dir; rw [if_neg (by omega), if_neg (by omega), if_neg (fun q => (e5 ▸ cs) q.2)]
                obtain ⟨o1, o2⟩ := q_out (st := st) (us := us) hr5 ht hd
                have ha : q_al st (up2 P v 3 x5) v = _ := q_al_hit hu hsu hlu hnu
                exact k _ _ _ (by rw [o1, if_pos rfl, ha]) ht.symm (by rw [o2, if_pos ⟨rfl, by rw [ha]; omega⟩]; rfl)
              · refine am_iret (st := []) rfl rfl dC_standInByRules_201 ?_
                have hr5 : q_rul P v = 5 := ru5 co (e2 ▸ c48) (by grind) (by grind) (fun q => c160 (e5.trans q))
                have ht : q_tab P v = up2 P v 3 x5 := by unfold q_tab; rw [if_neg (by omega), if_neg (by omega), if_pos ⟨hr5, e5 ▸ cs⟩, e5]
                have hd : q_dir P v = -1 := by unfold q_dir; rw [if_neg (by omega), if_neg (by omega), if_neg (fun q => (e5 ▸ cs) q.2)]
                obtain ⟨o1, o2⟩ := q_out (st := st) (us := us) hr5 ht hd
                have ha : q_al st (up2 P v 3 x5) v = _ := q_al_none hnu
                exact k _ _ _ (by rw [o1, if_pos rfl, ha]) ht.symm (by rw [o2, if_neg (fun q => q.2 ha)]; rfl)
        · refine am_aload_n (i := 2) dC_standInByRules_124 rfl rfl ?_
          refine am_getf dC_standInByRules_125 flC_132 (by first | rfl | exact sk8 (by omega) | exact sk9 (by omega) | exact sk10 (by omega) | exact sk11 (by omega)) rfl ?_
          refine am_aload_n (i := 2) dC_standInByRules_128 rfl rfl ?_
          refine am_getf dC_standInByRules_129 flC_135 (by first | rfl | exact sk8 (by omega) | exact sk9 (by omega) | exact sk10 (by omega) | exact sk11 (by omega)) rfl ?_
          refine am_icmp_ne (tgt := 150) dC_standInByRules_132 (by decide) (fun c132 => ?_) (fun c132 => ?_)
          · have htw : ¬ P v 3 = -1 ∨ ¬ (P v 0 = 6 ∨ P v 0 = 7 ∨ P v 0 = 11) := by
              by_cases hz : P v 0 = 6 ∨ P v 0 = 7 ∨ P v 0 = 11
              · exact Or.inl (hq3 (by rcases hz with q | q | q <;> exact k2_of _ q (by decide)))
              · exact Or.inr hz
            refine am_aload_n (i := 0) dC_standInByRules_150 rfl rfl ?_
            refine am_aload_n (i := 2) dC_standInByRules_151 rfl rfl ?_
            refine am_callV (ac' := 0) (as' := 0) (xs := [_]) dC_standInByRules_152 lkC_187 (by first | rfl | exact sk8 (by omega) | exact sk9 (by omega) | exact sk10 (by omega) | exact sk11 (by omega)) rfl rfl rfl rfl (Nat.le_of_ble_eq_true rfl) rfl rfl (cC_twiceInner hv h3 h4 htw (fun x5 e5' => ?_))
            have e5 : x5 = q_twi P v := e5'
            refine am_istore (i := 4) dC_standInByRules_155 (by decide) ?_
            refine am_iload (i := 4) dC_standInByRules_157 rfl ?_
            refine am_iconst (v := (-1)) dC_standInByRules_159 (by decide) ?_
            refine am_icmp_eq (tgt := 196) dC_standInByRules_160 (by decide) (fun c160 => ?_) (fun c160 => ?_)
            · refine am_aload_n (i := 0) dC_standInByRules_196 rfl rfl ?_
              refine am_iload_n (i := 1) dC_standInByRules_197 rfl rfl ?_
              refine am_callV (ac' := 0) (as' := 0) (xs := [_]) dC_standInByRules_198 lkC_178 (by first | rfl | exact sk8 (by omega) | exact sk9 (by omega) | exact sk10 (by omega) | exact sk11 (by omega)) rfl rfl rfl rfl (Nat.le_of_ble_eq_true rfl) rfl rfl (cC_alikeOrItself hv (fun u hu hsu hlu hnu => ?_) (fun hnu => ?_))
              · refine am_iret (st := []) rfl rfl dC_standInByRules_201 ?_
                have hr5 : q_rul P v = 0 := ru0 co (e2 ▸ c48) (by grind) (by grind) (e5 ▸ c160)
                have ht : q_tab P v = P := by unfold q_tab; rw [if_neg (by omega), if_neg (by omega), if_neg (fun q => by omega)]
                have hd : q_dir P v = -1 := by unfold q_dir; rw [if_neg (by omega), if_neg (by omega), if_neg (fun q => by omega)]
                obtain ⟨o1, o2⟩ := q_out (st := st) (us := us) hr5 ht hd
                have ha : q_al st P v = _ := q_al_hit hu hsu hlu hnu
                exact k _ _ _ (by rw [o1, if_pos rfl, ha]) ht.symm (by rw [o2, if_pos ⟨rfl, by rw [ha]; omega⟩]; rfl)
              · refine am_iret (st := []) rfl rfl dC_standInByRules_201 ?_
                have hr5 : q_rul P v = 0 := ru0 co (e2 ▸ c48) (by grind) (by grind) (e5 ▸ c160)
                have ht : q_tab P v = P := by unfold q_tab; rw [if_neg (by omega), if_neg (by omega), if_neg (fun q => by omega)]
                have hd : q_dir P v = -1 := by unfold q_dir; rw [if_neg (by omega), if_neg (by omega), if_neg (fun q => by omega)]
                obtain ⟨o1, o2⟩ := q_out (st := st) (us := us) hr5 ht hd
                have ha : q_al st P v = _ := q_al_none hnu
                exact k _ _ _ (by rw [o1, if_pos rfl, ha]) ht.symm (by rw [o2, if_neg (fun q => q.2 ha)]; rfl)
            · have gi : q_arg x5 (ix (P v 3)) := by
                rw [e5']
                split
                · split
                  · exact hr _ (h3.ix (hq3 (by rename_i hz _; rcases hz with q | q | q <;> exact k2_of _ q (by decide))) (by omega)).1
                  · exact Or.inl rfl
                · exact Or.inl rfl
              have g3 : ix (P v 3) < 28 := by
                by_cases hz : P v 3 = -1
                · rw [hz]; decide
                · have := (h3.ix hz (by omega)).1; omega
              have ein := gi.ix (show ¬ x5 = -1 from c160) (by omega)
              refine am_aload_n (i := 0) dC_standInByRules_163 rfl rfl ?_
              refine am_getf dC_standInByRules_164 flC_37 (by first | rfl | exact sk8 (by omega) | exact sk9 (by omega) | exact sk10 (by omega) | exact sk11 (by omega)) rfl ?_
              refine am_iconst (v := 5) dC_standInByRules_167 (by decide) ?_
              refine am_dup2 dC_standInByRules_168 rfl rfl ?_
              refine am_iald dC_standInByRules_169 (by first | rfl | exact sk8 (by omega) | exact sk9 (by omega) | exact sk10 (by omega) | exact sk11 (by omega)) (show (5 : Int32) = nI 5 from rfl) (by first | omega | assumption | decide) (by decide) (by decide) rfl ?_
              refine am_iconst (v := 1) dC_standInByRules_170 (by decide) ?_
              refine am_iadd dC_standInByRules_171 ?_
              refine am_iast' dC_standInByRules_172 (by first | rfl | exact sk8 (by omega) | exact sk9 (by omega) | exact sk10 (by omega) | exact sk11 (by omega)) (show (5 : Int32) = nI 5 from rfl) (by first | omega | assumption | decide) (by decide) (by decide) (by first | exact wx_st | exact wx_mk | exact wx_lv | exact wx_us | exact wx_A | exact wx_P | exact wx_cl | exact wx_pr | exact wx_va | exact wx_si | exact wx_wk) ?_
              refine am_aload_n (i := 2) dC_standInByRules_173 rfl rfl ?_
              refine am_aload_n (i := 0) dC_standInByRules_174 rfl rfl ?_
              refine am_getf dC_standInByRules_175 flC_15 (by first | rfl | exact sk8 (by omega) | exact sk9 (by omega) | exact sk10 (by omega) | exact sk11 (by omega)) rfl ?_
              refine am_iload (i := 4) dC_standInByRules_178 rfl ?_
              refine am_aald dC_standInByRules_180 (by first | rfl | exact sk8 (by omega) | exact sk9 (by omega) | exact sk10 (by omega) | exact sk11 (by omega)) ein.2 (by first | omega | assumption | decide) (by decide) (by decide) rfl rfl ?_
              refine am_callV (ac' := 0) (as' := 0) (xs := [_]) dC_standInByRules_181 lkC_147 (by first | rfl | exact sk8 (by omega) | exact sk9 (by omega) | exact sk10 (by omega) | exact sk11 (by omega)) rfl rfl rfl rfl (Nat.le_of_ble_eq_true rfl) rfl rfl (cO_hasShapeOf9 hv (by omega) (fun cs => ?_) (fun cs => ?_))
              · refine am_if_eq_F (tgt := 190) dC_standInByRules_184 (by decide) (by decide) ?_
                refine am_iload (i := 4) dC_standInByRules_187 rfl ?_
                refine am_iret (st := []) rfl rfl dC_standInByRules_189 ?_
                have hr5 : q_rul P v = 5 := ru5 co (e2 ▸ c48) (by grind) (by grind) (fun q => c160 (e5.trans q))
                obtain ⟨o1, o2⟩ := q_out (st := st) (us := us) (T := P) (y := x5) hr5 (by unfold q_tab; rw [if_neg (by omega), if_neg (by omega), if_neg (fun q => q.2 (e5 ▸ cs))]) (by unfold q_dir; rw [if_neg (by omega), if_neg (by omega), if_pos ⟨hr5, e5 ▸ cs⟩, e5])
                exact k _ _ _ (by rw [o1, if_neg c160]) (by unfold q_tab; rw [if_neg (by omega), if_neg (by omega), if_neg (fun q => q.2 (e5 ▸ cs))]) (by rw [o2, if_neg (fun q => c160 q.1)]; rfl)
              · refine am_if_eq_T (tgt := 190) dC_standInByRules_184 (by decide) (by decide) ?_
                refine am_aload_n (i := 2) dC_standInByRules_190 rfl rfl ?_
                refine am_iload (i := 4) dC_standInByRules_191 rfl ?_
                refine am_putf' dC_standInByRules_193 flC_132 (by first | rfl | exact sk8 (by omega) | exact sk9 (by omega) | exact sk10 (by omega) | exact sk11 (by omega)) rfl (fun _ => ⟨rfl, rfl⟩) (by first | exact wx_st | exact wx_mk | exact wx_lv | exact wx_us | exact wx_A | exact wx_P | exact wx_cl | exact wx_pr | exact wx_va | exact wx_si | exact wx_wk) ?_
                refine am_aload_n (i := 0) dC_standInByRules_196 rfl rfl ?_
                refine am_iload_n (i := 1) dC_standInByRules_197 rfl rfl ?_
                refine am_callV (ac' := 0) (as' := 0) (xs := [_]) dC_standInByRules_198 lkC_178 (by first | rfl | exact sk8 (by omega) | exact sk9 (by omega) | exact sk10 (by omega) | exact sk11 (by omega)) rfl rfl rfl rfl (Nat.le_of_ble_eq_true rfl) rfl rfl (cC_alikeOrItself hv (fun u hu hsu hlu hnu => ?_) (fun hnu => ?_))
                · refine am_iret (st := []) rfl rfl dC_standInByRules_201 ?_
                  have hr5 : q_rul P v = 5 := ru5 co (e2 ▸ c48) (by grind) (by grind) (fun q => c160 (e5.trans q))
                  have ht : q_tab P v = up2 P v 3 x5 := by unfold q_tab; rw [if_neg (by omega), if_neg (by omega), if_pos ⟨hr5, e5 ▸ cs⟩, e5]
                  have hd : q_dir P v = -1 := by unfold q_dir; rw [if_neg (by omega), if_neg (by omega), if_neg (fun q => (e5 ▸ cs) q.2)]
                  obtain ⟨o1, o2⟩ := q_out (st := st) (us := us) hr5 ht hd
                  have ha : q_al st (up2 P v 3 x5) v = _ := q_al_hit hu hsu hlu hnu
                  exact k _ _ _ (by rw [o1, if_pos rfl, ha]) ht.symm (by rw [o2, if_pos ⟨rfl, by rw [ha]; omega⟩]; rfl)
                · refine am_iret (st := []) rfl rfl dC_standInByRules_201 ?_
                  have hr5 : q_rul P v = 5 := ru5 co (e2 ▸ c48) (by grind) (by grind) (fun q => c160 (e5.trans q))
                  have ht : q_tab P v = up2 P v 3 x5 := by unfold q_tab; rw [if_neg (by omega), if_neg (by omega), if_pos ⟨hr5, e5 ▸ cs⟩, e5]
                  have hd : q_dir P v = -1 := by unfold q_dir; rw [if_neg (by omega), if_neg (by omega), if_neg (fun q => (e5 ▸ cs) q.2)]
                  obtain ⟨o1, o2⟩ := q_out (st := st) (us := us) hr5 ht hd
                  have ha : q_al st (up2 P v 3 x5) v = _ := q_al_none hnu
                  exact k _ _ _ (by rw [o1, if_pos rfl, ha]) ht.symm (by rw [o2, if_neg (fun q => q.2 ha)]; rfl)
          · refine am_aload_n (i := 0) dC_standInByRules_135 rfl rfl ?_
            refine am_getf dC_standInByRules_136 flC_37 (by first | rfl | exact sk8 (by omega) | exact sk9 (by omega) | exact sk10 (by omega) | exact sk11 (by omega)) rfl ?_
            refine am_iconst (v := 4) dC_standInByRules_139 (by decide) ?_
            refine am_dup2 dC_standInByRules_140 rfl rfl ?_
            refine am_iald dC_standInByRules_141 (by first | rfl | exact sk8 (by omega) | exact sk9 (by omega) | exact sk10 (by omega) | exact sk11 (by omega)) (show (4 : Int32) = nI 4 from rfl) (by first | omega | assumption | decide) (by decide) (by decide) rfl ?_
            refine am_iconst (v := 1) dC_standInByRules_142 (by decide) ?_
            refine am_iadd dC_standInByRules_143 ?_
            refine am_iast' dC_standInByRules_144 (by first | rfl | exact sk8 (by omega) | exact sk9 (by omega) | exact sk10 (by omega) | exact sk11 (by omega)) (show (4 : Int32) = nI 4 from rfl) (by first | omega | assumption | decide) (by decide) (by decide) (by first | exact wx_st | exact wx_mk | exact wx_lv | exact wx_us | exact wx_A | exact wx_P | exact wx_cl | exact wx_pr | exact wx_va | exact wx_si | exact wx_wk) ?_
            refine am_aload_n (i := 2) dC_standInByRules_145 rfl rfl ?_
            refine am_getf dC_standInByRules_146 flC_132 (by first | rfl | exact sk8 (by omega) | exact sk9 (by omega) | exact sk10 (by omega) | exact sk11 (by omega)) rfl ?_
            refine am_iret (st := []) rfl rfl dC_standInByRules_149 ?_
            have hr4 : q_rul P v = 4 := ru4 co (e2 ▸ c48) (by grind) ⟨by grind, by grind⟩
            have hn3 : ¬ P v 3 = -1 := hq3 (k2_of 5 (by grind) (by decide))
            obtain ⟨o1, o2⟩ := q_out (st := st) (us := us) (T := P) (y := P v 3) hr4 (by unfold q_tab; rw [hr4]; rfl) (by unfold q_dir; rw [hr4]; rfl)
            exact k _ _ _ (by rw [o1, if_neg hn3]) (by unfold q_tab; rw [hr4]; rfl) (by rw [o2, if_neg (fun q => hn3 q.1)]; rfl)
      · obtain ⟨g3, e3⟩ := h3.ix (hq3 (k2_of _ c68 (by decide))) (by omega)
        obtain ⟨g4, e4⟩ := h4.ix (hq4 (by grind)) (by omega)
        refine am_aload_n (i := 0) dC_standInByRules_71 rfl rfl ?_
        refine am_aload_n (i := 2) dC_standInByRules_72 rfl rfl ?_
        refine am_getf dC_standInByRules_73 flC_132 (by first | rfl | exact sk8 (by omega) | exact sk9 (by omega) | exact sk10 (by omega) | exact sk11 (by omega)) rfl ?_
        refine am_iconst (v := 0) dC_standInByRules_76 (by decide) ?_
        refine am_callV (ac' := 0) (as' := 0) (xs := [_, _]) dC_standInByRules_77 lkC_184 (by first | rfl | exact sk8 (by omega) | exact sk9 (by omega) | exact sk10 (by omega) | exact sk11 (by omega)) rfl rfl rfl rfl (Nat.le_of_ble_eq_true rfl) rfl rfl (cC_isSplat (by omega) e3 (fun ca => ?_) (fun ca => ?_))
        · refine am_if_ne_T (tgt := 95) dC_standInByRules_80 (by decide) (by decide) ?_
          refine am_aload_n (i := 0) dC_standInByRules_95 rfl rfl ?_
          refine am_getf dC_standInByRules_96 flC_37 (by first | rfl | exact sk8 (by omega) | exact sk9 (by omega) | exact sk10 (by omega) | exact sk11 (by omega)) rfl ?_
          refine am_iconst (v := 3) dC_standInByRules_99 (by decide) ?_
          refine am_dup2 dC_standInByRules_100 rfl rfl ?_
          refine am_iald dC_standInByRules_101 (by first | rfl | exact sk8 (by omega) | exact sk9 (by omega) | exact sk10 (by omega) | exact sk11 (by omega)) (show (3 : Int32) = nI 3 from rfl) (by first | omega | assumption | decide) (by decide) (by decide) rfl ?_
          refine am_iconst (v := 1) dC_standInByRules_102 (by decide) ?_
          refine am_iadd dC_standInByRules_103 ?_
          refine am_iast' dC_standInByRules_104 (by first | rfl | exact sk8 (by omega) | exact sk9 (by omega) | exact sk10 (by omega) | exact sk11 (by omega)) (show (3 : Int32) = nI 3 from rfl) (by first | omega | assumption | decide) (by decide) (by decide) (by first | exact wx_st | exact wx_mk | exact wx_lv | exact wx_us | exact wx_A | exact wx_P | exact wx_cl | exact wx_pr | exact wx_va | exact wx_si | exact wx_wk) ?_
          refine am_aload_n (i := 2) dC_standInByRules_105 rfl rfl ?_
          refine am_iconst (v := 0) dC_standInByRules_106 (by decide) ?_
          refine am_callV (ac' := 0) (as' := 0) (xs := [_]) dC_standInByRules_107 lkC_175 (by first | rfl | exact sk8 (by omega) | exact sk9 (by omega) | exact sk10 (by omega) | exact sk11 (by omega)) rfl rfl rfl rfl (Nat.le_of_ble_eq_true rfl) rfl rfl (cO_becomeSplat hv ?_)
          refine am_aload_n (i := 0) dC_standInByRules_110 rfl rfl ?_
          refine am_iload_n (i := 1) dC_standInByRules_111 rfl rfl ?_
          refine am_callV (ac' := 0) (as' := 0) (xs := [_]) dC_standInByRules_112 lkC_178 (by first | rfl | exact sk8 (by omega) | exact sk9 (by omega) | exact sk10 (by omega) | exact sk11 (by omega)) rfl rfl rfl rfl (Nat.le_of_ble_eq_true rfl) rfl rfl (cC_alikeOrItself hv (fun u hu hsu hlu hnu => ?_) (fun hnu => ?_))
          · refine am_iret (st := []) rfl rfl dC_standInByRules_115 ?_
            have hr1 : q_rul P v = 3 := ru3 co (e2 ▸ c48) (by grind)
            have ht : q_tab P v = q_spt P v 0 := by unfold q_tab; rw [if_neg (by omega), if_pos hr1]
            have hd : q_dir P v = -1 := by unfold q_dir; rw [if_neg (by omega), if_neg (by omega), if_neg (fun q => by omega)]
            obtain ⟨o1, o2⟩ := q_out (st := st) (us := us) hr1 ht hd
            have ha : q_al st (q_spt P v 0) v = _ := q_al_hit hu hsu hlu hnu
            exact k _ _ _ (by rw [o1, if_pos rfl, ha]) ht.symm (by rw [o2, if_pos ⟨rfl, by rw [ha]; omega⟩]; rfl)
          · refine am_iret (st := []) rfl rfl dC_standInByRules_115 ?_
            have hr1 : q_rul P v = 3 := ru3 co (e2 ▸ c48) (by grind)
            have ht : q_tab P v = q_spt P v 0 := by unfold q_tab; rw [if_neg (by omega), if_pos hr1]
            have hd : q_dir P v = -1 := by unfold q_dir; rw [if_neg (by omega), if_neg (by omega), if_neg (fun q => by omega)]
            obtain ⟨o1, o2⟩ := q_out (st := st) (us := us) hr1 ht hd
            have ha : q_al st (q_spt P v 0) v = _ := q_al_none hnu
            exact k _ _ _ (by rw [o1, if_pos rfl, ha]) ht.symm (by rw [o2, if_neg (fun q => q.2 ha)]; rfl)
        · refine am_if_ne_F (tgt := 95) dC_standInByRules_80 (by decide) (by decide) ?_
          refine am_aload_n (i := 0) dC_standInByRules_83 rfl rfl ?_
          refine am_aload_n (i := 2) dC_standInByRules_84 rfl rfl ?_
          refine am_getf dC_standInByRules_85 flC_135 (by first | rfl | exact sk8 (by omega) | exact sk9 (by omega) | exact sk10 (by omega) | exact sk11 (by omega)) rfl ?_
          refine am_iconst (v := 0) dC_standInByRules_88 (by decide) ?_
          refine am_callV (ac' := 0) (as' := 0) (xs := [_, _]) dC_standInByRules_89 lkC_184 (by first | rfl | exact sk8 (by omega) | exact sk9 (by omega) | exact sk10 (by omega) | exact sk11 (by omega)) rfl rfl rfl rfl (Nat.le_of_ble_eq_true rfl) rfl rfl (cC_isSplat (by omega) e4 (fun cb => ?_) (fun cb => ?_))
          · refine am_if_eq_F (tgt := 116) dC_standInByRules_92 (by decide) (by decide) ?_
            refine am_aload_n (i := 0) dC_standInByRules_95 rfl rfl ?_
            refine am_getf dC_standInByRules_96 flC_37 (by first | rfl | exact sk8 (by omega) | exact sk9 (by omega) | exact sk10 (by omega) | exact sk11 (by omega)) rfl ?_
            refine am_iconst (v := 3) dC_standInByRules_99 (by decide) ?_
            refine am_dup2 dC_standInByRules_100 rfl rfl ?_
            refine am_iald dC_standInByRules_101 (by first | rfl | exact sk8 (by omega) | exact sk9 (by omega) | exact sk10 (by omega) | exact sk11 (by omega)) (show (3 : Int32) = nI 3 from rfl) (by first | omega | assumption | decide) (by decide) (by decide) rfl ?_
            refine am_iconst (v := 1) dC_standInByRules_102 (by decide) ?_
            refine am_iadd dC_standInByRules_103 ?_
            refine am_iast' dC_standInByRules_104 (by first | rfl | exact sk8 (by omega) | exact sk9 (by omega) | exact sk10 (by omega) | exact sk11 (by omega)) (show (3 : Int32) = nI 3 from rfl) (by first | omega | assumption | decide) (by decide) (by decide) (by first | exact wx_st | exact wx_mk | exact wx_lv | exact wx_us | exact wx_A | exact wx_P | exact wx_cl | exact wx_pr | exact wx_va | exact wx_si | exact wx_wk) ?_
            refine am_aload_n (i := 2) dC_standInByRules_105 rfl rfl ?_
            refine am_iconst (v := 0) dC_standInByRules_106 (by decide) ?_
            refine am_callV (ac' := 0) (as' := 0) (xs := [_]) dC_standInByRules_107 lkC_175 (by first | rfl | exact sk8 (by omega) | exact sk9 (by omega) | exact sk10 (by omega) | exact sk11 (by omega)) rfl rfl rfl rfl (Nat.le_of_ble_eq_true rfl) rfl rfl (cO_becomeSplat hv ?_)
            refine am_aload_n (i := 0) dC_standInByRules_110 rfl rfl ?_
            refine am_iload_n (i := 1) dC_standInByRules_111 rfl rfl ?_
            refine am_callV (ac' := 0) (as' := 0) (xs := [_]) dC_standInByRules_112 lkC_178 (by first | rfl | exact sk8 (by omega) | exact sk9 (by omega) | exact sk10 (by omega) | exact sk11 (by omega)) rfl rfl rfl rfl (Nat.le_of_ble_eq_true rfl) rfl rfl (cC_alikeOrItself hv (fun u hu hsu hlu hnu => ?_) (fun hnu => ?_))
            · refine am_iret (st := []) rfl rfl dC_standInByRules_115 ?_
              have hr1 : q_rul P v = 3 := ru3 co (e2 ▸ c48) (by grind)
              have ht : q_tab P v = q_spt P v 0 := by unfold q_tab; rw [if_neg (by omega), if_pos hr1]
              have hd : q_dir P v = -1 := by unfold q_dir; rw [if_neg (by omega), if_neg (by omega), if_neg (fun q => by omega)]
              obtain ⟨o1, o2⟩ := q_out (st := st) (us := us) hr1 ht hd
              have ha : q_al st (q_spt P v 0) v = _ := q_al_hit hu hsu hlu hnu
              exact k _ _ _ (by rw [o1, if_pos rfl, ha]) ht.symm (by rw [o2, if_pos ⟨rfl, by rw [ha]; omega⟩]; rfl)
            · refine am_iret (st := []) rfl rfl dC_standInByRules_115 ?_
              have hr1 : q_rul P v = 3 := ru3 co (e2 ▸ c48) (by grind)
              have ht : q_tab P v = q_spt P v 0 := by unfold q_tab; rw [if_neg (by omega), if_pos hr1]
              have hd : q_dir P v = -1 := by unfold q_dir; rw [if_neg (by omega), if_neg (by omega), if_neg (fun q => by omega)]
              obtain ⟨o1, o2⟩ := q_out (st := st) (us := us) hr1 ht hd
              have ha : q_al st (q_spt P v 0) v = _ := q_al_none hnu
              exact k _ _ _ (by rw [o1, if_pos rfl, ha]) ht.symm (by rw [o2, if_neg (fun q => q.2 ha)]; rfl)
          · refine am_if_eq_T (tgt := 116) dC_standInByRules_92 (by decide) (by decide) ?_
            refine am_aload_n (i := 2) dC_standInByRules_116 rfl rfl ?_
            refine am_getf dC_standInByRules_117 flC_129 (by first | rfl | exact sk8 (by omega) | exact sk9 (by omega) | exact sk10 (by omega) | exact sk11 (by omega)) rfl ?_
            refine am_iconst (v := 5) dC_standInByRules_120 (by decide) ?_
            refine am_icmp_ne (tgt := 150) dC_standInByRules_121 (by decide) (fun c121 => ?_) (fun c121 => ?_)
            · have htw : ¬ P v 3 = -1 ∨ ¬ (P v 0 = 6 ∨ P v 0 = 7 ∨ P v 0 = 11) := by
                by_cases hz : P v 0 = 6 ∨ P v 0 = 7 ∨ P v 0 = 11
                · exact Or.inl (hq3 (by rcases hz with q | q | q <;> exact k2_of _ q (by decide)))
                · exact Or.inr hz
              refine am_aload_n (i := 0) dC_standInByRules_150 rfl rfl ?_
              refine am_aload_n (i := 2) dC_standInByRules_151 rfl rfl ?_
              refine am_callV (ac' := 0) (as' := 0) (xs := [_]) dC_standInByRules_152 lkC_187 (by first | rfl | exact sk8 (by omega) | exact sk9 (by omega) | exact sk10 (by omega) | exact sk11 (by omega)) rfl rfl rfl rfl (Nat.le_of_ble_eq_true rfl) rfl rfl (cC_twiceInner hv h3 h4 htw (fun x5 e5' => ?_))
              have e5 : x5 = q_twi P v := e5'
              refine am_istore (i := 4) dC_standInByRules_155 (by decide) ?_
              refine am_iload (i := 4) dC_standInByRules_157 rfl ?_
              refine am_iconst (v := (-1)) dC_standInByRules_159 (by decide) ?_
              refine am_icmp_eq (tgt := 196) dC_standInByRules_160 (by decide) (fun c160 => ?_) (fun c160 => ?_)
              · refine am_aload_n (i := 0) dC_standInByRules_196 rfl rfl ?_
                refine am_iload_n (i := 1) dC_standInByRules_197 rfl rfl ?_
                refine am_callV (ac' := 0) (as' := 0) (xs := [_]) dC_standInByRules_198 lkC_178 (by first | rfl | exact sk8 (by omega) | exact sk9 (by omega) | exact sk10 (by omega) | exact sk11 (by omega)) rfl rfl rfl rfl (Nat.le_of_ble_eq_true rfl) rfl rfl (cC_alikeOrItself hv (fun u hu hsu hlu hnu => ?_) (fun hnu => ?_))
                · refine am_iret (st := []) rfl rfl dC_standInByRules_201 ?_
                  have hr5 : q_rul P v = 0 := ru0 co (e2 ▸ c48) (by grind) (by grind) (e5 ▸ c160)
                  have ht : q_tab P v = P := by unfold q_tab; rw [if_neg (by omega), if_neg (by omega), if_neg (fun q => by omega)]
                  have hd : q_dir P v = -1 := by unfold q_dir; rw [if_neg (by omega), if_neg (by omega), if_neg (fun q => by omega)]
                  obtain ⟨o1, o2⟩ := q_out (st := st) (us := us) hr5 ht hd
                  have ha : q_al st P v = _ := q_al_hit hu hsu hlu hnu
                  exact k _ _ _ (by rw [o1, if_pos rfl, ha]) ht.symm (by rw [o2, if_pos ⟨rfl, by rw [ha]; omega⟩]; rfl)
                · refine am_iret (st := []) rfl rfl dC_standInByRules_201 ?_
                  have hr5 : q_rul P v = 0 := ru0 co (e2 ▸ c48) (by grind) (by grind) (e5 ▸ c160)
                  have ht : q_tab P v = P := by unfold q_tab; rw [if_neg (by omega), if_neg (by omega), if_neg (fun q => by omega)]
                  have hd : q_dir P v = -1 := by unfold q_dir; rw [if_neg (by omega), if_neg (by omega), if_neg (fun q => by omega)]
                  obtain ⟨o1, o2⟩ := q_out (st := st) (us := us) hr5 ht hd
                  have ha : q_al st P v = _ := q_al_none hnu
                  exact k _ _ _ (by rw [o1, if_pos rfl, ha]) ht.symm (by rw [o2, if_neg (fun q => q.2 ha)]; rfl)
              · have gi : q_arg x5 (ix (P v 3)) := by
                  rw [e5']
                  split
                  · split
                    · exact hr _ (h3.ix (hq3 (by rename_i hz _; rcases hz with q | q | q <;> exact k2_of _ q (by decide))) (by omega)).1
                    · exact Or.inl rfl
                  · exact Or.inl rfl
                have g3 : ix (P v 3) < 28 := by
                  by_cases hz : P v 3 = -1
                  · rw [hz]; decide
                  · have := (h3.ix hz (by omega)).1; omega
                have ein := gi.ix (show ¬ x5 = -1 from c160) (by omega)
                refine am_aload_n (i := 0) dC_standInByRules_163 rfl rfl ?_
                refine am_getf dC_standInByRules_164 flC_37 (by first | rfl | exact sk8 (by omega) | exact sk9 (by omega) | exact sk10 (by omega) | exact sk11 (by omega)) rfl ?_
                refine am_iconst (v := 5) dC_standInByRules_167 (by decide) ?_
                refine am_dup2 dC_standInByRules_168 rfl rfl ?_
                refine am_iald dC_standInByRules_169 (by first | rfl | exact sk8 (by omega) | exact sk9 (by omega) | exact sk10 (by omega) | exact sk11 (by omega)) (show (5 : Int32) = nI 5 from rfl) (by first | omega | assumption | decide) (by decide) (by decide) rfl ?_
                refine am_iconst (v := 1) dC_standInByRules_170 (by decide) ?_
                refine am_iadd dC_standInByRules_171 ?_
                refine am_iast' dC_standInByRules_172 (by first | rfl | exact sk8 (by omega) | exact sk9 (by omega) | exact sk10 (by omega) | exact sk11 (by omega)) (show (5 : Int32) = nI 5 from rfl) (by first | omega | assumption | decide) (by decide) (by decide) (by first | exact wx_st | exact wx_mk | exact wx_lv | exact wx_us | exact wx_A | exact wx_P | exact wx_cl | exact wx_pr | exact wx_va | exact wx_si | exact wx_wk) ?_
                refine am_aload_n (i := 2) dC_standInByRules_173 rfl rfl ?_
                refine am_aload_n (i := 0) dC_standInByRules_174 rfl rfl ?_
                refine am_getf dC_standInByRules_175 flC_15 (by first | rfl | exact sk8 (by omega) | exact sk9 (by omega) | exact sk10 (by omega) | exact sk11 (by omega)) rfl ?_
                refine am_iload (i := 4) dC_standInByRules_178 rfl ?_
                refine am_aald dC_standInByRules_180 (by first | rfl | exact sk8 (by omega) | exact sk9 (by omega) | exact sk10 (by omega) | exact sk11 (by omega)) ein.2 (by first | omega | assumption | decide) (by decide) (by decide) rfl rfl ?_
                refine am_callV (ac' := 0) (as' := 0) (xs := [_]) dC_standInByRules_181 lkC_147 (by first | rfl | exact sk8 (by omega) | exact sk9 (by omega) | exact sk10 (by omega) | exact sk11 (by omega)) rfl rfl rfl rfl (Nat.le_of_ble_eq_true rfl) rfl rfl (cO_hasShapeOf9 hv (by omega) (fun cs => ?_) (fun cs => ?_))
                · refine am_if_eq_F (tgt := 190) dC_standInByRules_184 (by decide) (by decide) ?_
                  refine am_iload (i := 4) dC_standInByRules_187 rfl ?_
                  refine am_iret (st := []) rfl rfl dC_standInByRules_189 ?_
                  have hr5 : q_rul P v = 5 := ru5 co (e2 ▸ c48) (by grind) (by grind) (fun q => c160 (e5.trans q))
                  obtain ⟨o1, o2⟩ := q_out (st := st) (us := us) (T := P) (y := x5) hr5 (by unfold q_tab; rw [if_neg (by omega), if_neg (by omega), if_neg (fun q => q.2 (e5 ▸ cs))]) (by unfold q_dir; rw [if_neg (by omega), if_neg (by omega), if_pos ⟨hr5, e5 ▸ cs⟩, e5])
                  exact k _ _ _ (by rw [o1, if_neg c160]) (by unfold q_tab; rw [if_neg (by omega), if_neg (by omega), if_neg (fun q => q.2 (e5 ▸ cs))]) (by rw [o2, if_neg (fun q => c160 q.1)]; rfl)
                · refine am_if_eq_T (tgt := 190) dC_standInByRules_184 (by decide) (by decide) ?_
                  refine am_aload_n (i := 2) dC_standInByRules_190 rfl rfl ?_
                  refine am_iload (i := 4) dC_standInByRules_191 rfl ?_
                  refine am_putf' dC_standInByRules_193 flC_132 (by first | rfl | exact sk8 (by omega) | exact sk9 (by omega) | exact sk10 (by omega) | exact sk11 (by omega)) rfl (fun _ => ⟨rfl, rfl⟩) (by first | exact wx_st | exact wx_mk | exact wx_lv | exact wx_us | exact wx_A | exact wx_P | exact wx_cl | exact wx_pr | exact wx_va | exact wx_si | exact wx_wk) ?_
                  refine am_aload_n (i := 0) dC_standInByRules_196 rfl rfl ?_
                  refine am_iload_n (i := 1) dC_standInByRules_197 rfl rfl ?_
                  refine am_callV (ac' := 0) (as' := 0) (xs := [_]) dC_standInByRules_198 lkC_178 (by first | rfl | exact sk8 (by omega) | exact sk9 (by omega) | exact sk10 (by omega) | exact sk11 (by omega)) rfl rfl rfl rfl (Nat.le_of_ble_eq_true rfl) rfl rfl (cC_alikeOrItself hv (fun u hu hsu hlu hnu => ?_) (fun hnu => ?_))
                  · refine am_iret (st := []) rfl rfl dC_standInByRules_201 ?_
                    have hr5 : q_rul P v = 5 := ru5 co (e2 ▸ c48) (by grind) (by grind) (fun q => c160 (e5.trans q))
                    have ht : q_tab P v = up2 P v 3 x5 := by unfold q_tab; rw [if_neg (by omega), if_neg (by omega), if_pos ⟨hr5, e5 ▸ cs⟩, e5]
                    have hd : q_dir P v = -1 := by unfold q_dir; rw [if_neg (by omega), if_neg (by omega), if_neg (fun q => (e5 ▸ cs) q.2)]
                    obtain ⟨o1, o2⟩ := q_out (st := st) (us := us) hr5 ht hd
                    have ha : q_al st (up2 P v 3 x5) v = _ := q_al_hit hu hsu hlu hnu
                    exact k _ _ _ (by rw [o1, if_pos rfl, ha]) ht.symm (by rw [o2, if_pos ⟨rfl, by rw [ha]; omega⟩]; rfl)
                  · refine am_iret (st := []) rfl rfl dC_standInByRules_201 ?_
                    have hr5 : q_rul P v = 5 := ru5 co (e2 ▸ c48) (by grind) (by grind) (fun q => c160 (e5.trans q))
                    have ht : q_tab P v = up2 P v 3 x5 := by unfold q_tab; rw [if_neg (by omega), if_neg (by omega), if_pos ⟨hr5, e5 ▸ cs⟩, e5]
                    have hd : q_dir P v = -1 := by unfold q_dir; rw [if_neg (by omega), if_neg (by omega), if_neg (fun q => (e5 ▸ cs) q.2)]
                    obtain ⟨o1, o2⟩ := q_out (st := st) (us := us) hr5 ht hd
                    have ha : q_al st (up2 P v 3 x5) v = _ := q_al_none hnu
                    exact k _ _ _ (by rw [o1, if_pos rfl, ha]) ht.symm (by rw [o2, if_neg (fun q => q.2 ha)]; rfl)
            · refine am_aload_n (i := 2) dC_standInByRules_124 rfl rfl ?_
              refine am_getf dC_standInByRules_125 flC_132 (by first | rfl | exact sk8 (by omega) | exact sk9 (by omega) | exact sk10 (by omega) | exact sk11 (by omega)) rfl ?_
              refine am_aload_n (i := 2) dC_standInByRules_128 rfl rfl ?_
              refine am_getf dC_standInByRules_129 flC_135 (by first | rfl | exact sk8 (by omega) | exact sk9 (by omega) | exact sk10 (by omega) | exact sk11 (by omega)) rfl ?_
              refine am_icmp_ne (tgt := 150) dC_standInByRules_132 (by decide) (fun c132 => ?_) (fun c132 => ?_)
              · have htw : ¬ P v 3 = -1 ∨ ¬ (P v 0 = 6 ∨ P v 0 = 7 ∨ P v 0 = 11) := by
                  by_cases hz : P v 0 = 6 ∨ P v 0 = 7 ∨ P v 0 = 11
                  · exact Or.inl (hq3 (by rcases hz with q | q | q <;> exact k2_of _ q (by decide)))
                  · exact Or.inr hz
                refine am_aload_n (i := 0) dC_standInByRules_150 rfl rfl ?_
                refine am_aload_n (i := 2) dC_standInByRules_151 rfl rfl ?_
                refine am_callV (ac' := 0) (as' := 0) (xs := [_]) dC_standInByRules_152 lkC_187 (by first | rfl | exact sk8 (by omega) | exact sk9 (by omega) | exact sk10 (by omega) | exact sk11 (by omega)) rfl rfl rfl rfl (Nat.le_of_ble_eq_true rfl) rfl rfl (cC_twiceInner hv h3 h4 htw (fun x5 e5' => ?_))
                have e5 : x5 = q_twi P v := e5'
                refine am_istore (i := 4) dC_standInByRules_155 (by decide) ?_
                refine am_iload (i := 4) dC_standInByRules_157 rfl ?_
                refine am_iconst (v := (-1)) dC_standInByRules_159 (by decide) ?_
                refine am_icmp_eq (tgt := 196) dC_standInByRules_160 (by decide) (fun c160 => ?_) (fun c160 => ?_)
                · refine am_aload_n (i := 0) dC_standInByRules_196 rfl rfl ?_
                  refine am_iload_n (i := 1) dC_standInByRules_197 rfl rfl ?_
                  refine am_callV (ac' := 0) (as' := 0) (xs := [_]) dC_standInByRules_198 lkC_178 (by first | rfl | exact sk8 (by omega) | exact sk9 (by omega) | exact sk10 (by omega) | exact sk11 (by omega)) rfl rfl rfl rfl (Nat.le_of_ble_eq_true rfl) rfl rfl (cC_alikeOrItself hv (fun u hu hsu hlu hnu => ?_) (fun hnu => ?_))
                  · refine am_iret (st := []) rfl rfl dC_standInByRules_201 ?_
                    have hr5 : q_rul P v = 0 := ru0 co (e2 ▸ c48) (by grind) (by grind) (e5 ▸ c160)
                    have ht : q_tab P v = P := by unfold q_tab; rw [if_neg (by omega), if_neg (by omega), if_neg (fun q => by omega)]
                    have hd : q_dir P v = -1 := by unfold q_dir; rw [if_neg (by omega), if_neg (by omega), if_neg (fun q => by omega)]
                    obtain ⟨o1, o2⟩ := q_out (st := st) (us := us) hr5 ht hd
                    have ha : q_al st P v = _ := q_al_hit hu hsu hlu hnu
                    exact k _ _ _ (by rw [o1, if_pos rfl, ha]) ht.symm (by rw [o2, if_pos ⟨rfl, by rw [ha]; omega⟩]; rfl)
                  · refine am_iret (st := []) rfl rfl dC_standInByRules_201 ?_
                    have hr5 : q_rul P v = 0 := ru0 co (e2 ▸ c48) (by grind) (by grind) (e5 ▸ c160)
                    have ht : q_tab P v = P := by unfold q_tab; rw [if_neg (by omega), if_neg (by omega), if_neg (fun q => by omega)]
                    have hd : q_dir P v = -1 := by unfold q_dir; rw [if_neg (by omega), if_neg (by omega), if_neg (fun q => by omega)]
                    obtain ⟨o1, o2⟩ := q_out (st := st) (us := us) hr5 ht hd
                    have ha : q_al st P v = _ := q_al_none hnu
                    exact k _ _ _ (by rw [o1, if_pos rfl, ha]) ht.symm (by rw [o2, if_neg (fun q => q.2 ha)]; rfl)
                · have gi : q_arg x5 (ix (P v 3)) := by
                    rw [e5']
                    split
                    · split
                      · exact hr _ (h3.ix (hq3 (by rename_i hz _; rcases hz with q | q | q <;> exact k2_of _ q (by decide))) (by omega)).1
                      · exact Or.inl rfl
                    · exact Or.inl rfl
                  have g3 : ix (P v 3) < 28 := by
                    by_cases hz : P v 3 = -1
                    · rw [hz]; decide
                    · have := (h3.ix hz (by omega)).1; omega
                  have ein := gi.ix (show ¬ x5 = -1 from c160) (by omega)
                  refine am_aload_n (i := 0) dC_standInByRules_163 rfl rfl ?_
                  refine am_getf dC_standInByRules_164 flC_37 (by first | rfl | exact sk8 (by omega) | exact sk9 (by omega) | exact sk10 (by omega) | exact sk11 (by omega)) rfl ?_
                  refine am_iconst (v := 5) dC_standInByRules_167 (by decide) ?_
                  refine am_dup2 dC_standInByRules_168 rfl rfl ?_
                  refine am_iald dC_standInByRules_169 (by first | rfl | exact sk8 (by omega) | exact sk9 (by omega) | exact sk10 (by omega) | exact sk11 (by omega)) (show (5 : Int32) = nI 5 from rfl) (by first | omega | assumption | decide) (by decide) (by decide) rfl ?_
                  refine am_iconst (v := 1) dC_standInByRules_170 (by decide) ?_
                  refine am_iadd dC_standInByRules_171 ?_
                  refine am_iast' dC_standInByRules_172 (by first | rfl | exact sk8 (by omega) | exact sk9 (by omega) | exact sk10 (by omega) | exact sk11 (by omega)) (show (5 : Int32) = nI 5 from rfl) (by first | omega | assumption | decide) (by decide) (by decide) (by first | exact wx_st | exact wx_mk | exact wx_lv | exact wx_us | exact wx_A | exact wx_P | exact wx_cl | exact wx_pr | exact wx_va | exact wx_si | exact wx_wk) ?_
                  refine am_aload_n (i := 2) dC_standInByRules_173 rfl rfl ?_
                  refine am_aload_n (i := 0) dC_standInByRules_174 rfl rfl ?_
                  refine am_getf dC_standInByRules_175 flC_15 (by first | rfl | exact sk8 (by omega) | exact sk9 (by omega) | exact sk10 (by omega) | exact sk11 (by omega)) rfl ?_
                  refine am_iload (i := 4) dC_standInByRules_178 rfl ?_
                  refine am_aald dC_standInByRules_180 (by first | rfl | exact sk8 (by omega) | exact sk9 (by omega) | exact sk10 (by omega) | exact sk11 (by omega)) ein.2 (by first | omega | assumption | decide) (by decide) (by decide) rfl rfl ?_
                  refine am_callV (ac' := 0) (as' := 0) (xs := [_]) dC_standInByRules_181 lkC_147 (by first | rfl | exact sk8 (by omega) | exact sk9 (by omega) | exact sk10 (by omega) | exact sk11 (by omega)) rfl rfl rfl rfl (Nat.le_of_ble_eq_true rfl) rfl rfl (cO_hasShapeOf9 hv (by omega) (fun cs => ?_) (fun cs => ?_))
                  · refine am_if_eq_F (tgt := 190) dC_standInByRules_184 (by decide) (by decide) ?_
                    refine am_iload (i := 4) dC_standInByRules_187 rfl ?_
                    refine am_iret (st := []) rfl rfl dC_standInByRules_189 ?_
                    have hr5 : q_rul P v = 5 := ru5 co (e2 ▸ c48) (by grind) (by grind) (fun q => c160 (e5.trans q))
                    obtain ⟨o1, o2⟩ := q_out (st := st) (us := us) (T := P) (y := x5) hr5 (by unfold q_tab; rw [if_neg (by omega), if_neg (by omega), if_neg (fun q => q.2 (e5 ▸ cs))]) (by unfold q_dir; rw [if_neg (by omega), if_neg (by omega), if_pos ⟨hr5, e5 ▸ cs⟩, e5])
                    exact k _ _ _ (by rw [o1, if_neg c160]) (by unfold q_tab; rw [if_neg (by omega), if_neg (by omega), if_neg (fun q => q.2 (e5 ▸ cs))]) (by rw [o2, if_neg (fun q => c160 q.1)]; rfl)
                  · refine am_if_eq_T (tgt := 190) dC_standInByRules_184 (by decide) (by decide) ?_
                    refine am_aload_n (i := 2) dC_standInByRules_190 rfl rfl ?_
                    refine am_iload (i := 4) dC_standInByRules_191 rfl ?_
                    refine am_putf' dC_standInByRules_193 flC_132 (by first | rfl | exact sk8 (by omega) | exact sk9 (by omega) | exact sk10 (by omega) | exact sk11 (by omega)) rfl (fun _ => ⟨rfl, rfl⟩) (by first | exact wx_st | exact wx_mk | exact wx_lv | exact wx_us | exact wx_A | exact wx_P | exact wx_cl | exact wx_pr | exact wx_va | exact wx_si | exact wx_wk) ?_
                    refine am_aload_n (i := 0) dC_standInByRules_196 rfl rfl ?_
                    refine am_iload_n (i := 1) dC_standInByRules_197 rfl rfl ?_
                    refine am_callV (ac' := 0) (as' := 0) (xs := [_]) dC_standInByRules_198 lkC_178 (by first | rfl | exact sk8 (by omega) | exact sk9 (by omega) | exact sk10 (by omega) | exact sk11 (by omega)) rfl rfl rfl rfl (Nat.le_of_ble_eq_true rfl) rfl rfl (cC_alikeOrItself hv (fun u hu hsu hlu hnu => ?_) (fun hnu => ?_))
                    · refine am_iret (st := []) rfl rfl dC_standInByRules_201 ?_
                      have hr5 : q_rul P v = 5 := ru5 co (e2 ▸ c48) (by grind) (by grind) (fun q => c160 (e5.trans q))
                      have ht : q_tab P v = up2 P v 3 x5 := by unfold q_tab; rw [if_neg (by omega), if_neg (by omega), if_pos ⟨hr5, e5 ▸ cs⟩, e5]
                      have hd : q_dir P v = -1 := by unfold q_dir; rw [if_neg (by omega), if_neg (by omega), if_neg (fun q => (e5 ▸ cs) q.2)]
                      obtain ⟨o1, o2⟩ := q_out (st := st) (us := us) hr5 ht hd
                      have ha : q_al st (up2 P v 3 x5) v = _ := q_al_hit hu hsu hlu hnu
                      exact k _ _ _ (by rw [o1, if_pos rfl, ha]) ht.symm (by rw [o2, if_pos ⟨rfl, by rw [ha]; omega⟩]; rfl)
                    · refine am_iret (st := []) rfl rfl dC_standInByRules_201 ?_
                      have hr5 : q_rul P v = 5 := ru5 co (e2 ▸ c48) (by grind) (by grind) (fun q => c160 (e5.trans q))
                      have ht : q_tab P v = up2 P v 3 x5 := by unfold q_tab; rw [if_neg (by omega), if_neg (by omega), if_pos ⟨hr5, e5 ▸ cs⟩, e5]
                      have hd : q_dir P v = -1 := by unfold q_dir; rw [if_neg (by omega), if_neg (by omega), if_neg (fun q => (e5 ▸ cs) q.2)]
                      obtain ⟨o1, o2⟩ := q_out (st := st) (us := us) hr5 ht hd
                      have ha : q_al st (up2 P v 3 x5) v = _ := q_al_none hnu
                      exact k _ _ _ (by rw [o1, if_pos rfl, ha]) ht.symm (by rw [o2, if_neg (fun q => q.2 ha)]; rfl)
              · refine am_aload_n (i := 0) dC_standInByRules_135 rfl rfl ?_
                refine am_getf dC_standInByRules_136 flC_37 (by first | rfl | exact sk8 (by omega) | exact sk9 (by omega) | exact sk10 (by omega) | exact sk11 (by omega)) rfl ?_
                refine am_iconst (v := 4) dC_standInByRules_139 (by decide) ?_
                refine am_dup2 dC_standInByRules_140 rfl rfl ?_
                refine am_iald dC_standInByRules_141 (by first | rfl | exact sk8 (by omega) | exact sk9 (by omega) | exact sk10 (by omega) | exact sk11 (by omega)) (show (4 : Int32) = nI 4 from rfl) (by first | omega | assumption | decide) (by decide) (by decide) rfl ?_
                refine am_iconst (v := 1) dC_standInByRules_142 (by decide) ?_
                refine am_iadd dC_standInByRules_143 ?_
                refine am_iast' dC_standInByRules_144 (by first | rfl | exact sk8 (by omega) | exact sk9 (by omega) | exact sk10 (by omega) | exact sk11 (by omega)) (show (4 : Int32) = nI 4 from rfl) (by first | omega | assumption | decide) (by decide) (by decide) (by first | exact wx_st | exact wx_mk | exact wx_lv | exact wx_us | exact wx_A | exact wx_P | exact wx_cl | exact wx_pr | exact wx_va | exact wx_si | exact wx_wk) ?_
                refine am_aload_n (i := 2) dC_standInByRules_145 rfl rfl ?_
                refine am_getf dC_standInByRules_146 flC_132 (by first | rfl | exact sk8 (by omega) | exact sk9 (by omega) | exact sk10 (by omega) | exact sk11 (by omega)) rfl ?_
                refine am_iret (st := []) rfl rfl dC_standInByRules_149 ?_
                have hr4 : q_rul P v = 4 := ru4 co (e2 ▸ c48) (by grind) ⟨by grind, by grind⟩
                have hn3 : ¬ P v 3 = -1 := hq3 (k2_of 5 (by grind) (by decide))
                obtain ⟨o1, o2⟩ := q_out (st := st) (us := us) (T := P) (y := P v 3) hr4 (by unfold q_tab; rw [hr4]; rfl) (by unfold q_dir; rw [hr4]; rfl)
                exact k _ _ _ (by rw [o1, if_neg hn3]) (by unfold q_tab; rw [hr4]; rfl) (by rw [o2, if_neg (fun q => hn3 q.1)]; rfl)
    · refine am_aload_n (i := 0) dC_standInByRules_51 rfl rfl ?_
      refine am_getf dC_standInByRules_52 flC_37 (by first | rfl | exact sk8 (by omega) | exact sk9 (by omega) | exact sk10 (by omega) | exact sk11 (by omega)) rfl ?_
      refine am_iconst (v := 2) dC_standInByRules_55 (by decide) ?_
      refine am_dup2 dC_standInByRules_56 rfl rfl ?_
      refine am_iald dC_standInByRules_57 (by first | rfl | exact sk8 (by omega) | exact sk9 (by omega) | exact sk10 (by omega) | exact sk11 (by omega)) (show (2 : Int32) = nI 2 from rfl) (by first | omega | assumption | decide) (by decide) (by decide) rfl ?_
      refine am_iconst (v := 1) dC_standInByRules_58 (by decide) ?_
      refine am_iadd dC_standInByRules_59 ?_
      refine am_iast' dC_standInByRules_60 (by first | rfl | exact sk8 (by omega) | exact sk9 (by omega) | exact sk10 (by omega) | exact sk11 (by omega)) (show (2 : Int32) = nI 2 from rfl) (by first | omega | assumption | decide) (by decide) (by decide) (by first | exact wx_st | exact wx_mk | exact wx_lv | exact wx_us | exact wx_A | exact wx_P | exact wx_cl | exact wx_pr | exact wx_va | exact wx_si | exact wx_wk) ?_
      refine am_iload_n (i := 3) dC_standInByRules_61 rfl rfl ?_
      refine am_iret (st := []) rfl rfl dC_standInByRules_62 ?_
      have hr2 : q_rul P v = 2 := ru2 co (fun q => c48 (e2.trans q))
      obtain ⟨o1, o2⟩ := q_out (st := st) (us := us) (T := P) (y := x2) hr2 (by unfold q_tab; rw [hr2]; rfl) (by unfold q_dir; rw [hr2, ← e2]; rfl)
      exact k _ _ _ (by rw [o1, if_neg c48]) (by unfold q_tab; rw [hr2]; rfl) (by rw [o2, if_neg (fun q => c48 q.1)]; rfl)
