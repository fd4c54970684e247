/-! ===== adding: pure ===== -/
def q_bec (A : Nat → Nat → Int32) (n : Nat) (κ a b p q : Int32) : Nat → Nat → Int32 := up2 (up2 (up2 (up2 (up2 A n 0 κ) n 3 a) n 4 b) n 5 p) n 6 q
def q_new (A : Nat → Nat → Int32) (n : Nat) (κ a b p q x y : Int32) : Nat → Nat → Int32 := up2 (up2 (q_bec A n κ a b p q) n 1 x) n 2 y
theorem q_bec_old {A : Nat → Nat → Int32} {n : Nat} {κ a b p q : Int32} {v k : Nat} (h : v ≠ n) : q_bec A n κ a b p q v k = A v k := by
  unfold q_bec
  rw [up2_i h, up2_i h, up2_i h, up2_i h, up2_i h]
theorem q_bec_3 {A : Nat → Nat → Int32} {n : Nat} {κ a b p q : Int32} : q_bec A n κ a b p q n 3 = a := by simp [q_bec, up2]
theorem q_bec_4 {A : Nat → Nat → Int32} {n : Nat} {κ a b p q : Int32} : q_bec A n κ a b p q n 4 = b := by simp [q_bec, up2]
abbrev q_val (x : Int32) (n : Nat) : Prop := ¬ (x < 0 ∨ nI n ≤ x)
theorem q_val_of {j n : Nat} (h : j < n) (hn : n ≤ 28) : q_val (nI j) n := by
  rintro (q | q)
  · exact nI_pos (by omega) q
  · have := (nI_le' (by omega) (by omega)).mp q; omega
theorem q_lt28 {n : Nat} (hn : n ≤ 28) : nI n < 28 ↔ n < 28 := nI_lt' (b := 28) (by omega) (by omega)
theorem q_args_bec {A : Nat → Nat → Int32} {n : Nat} {κ a b p q : Int32} (hA : ∀ m, m < n → q_arg (A m 3) m ∧ q_arg (A m 4) m) (ha : q_arg a n) (hb : q_arg b n) : ∀ m, m < n + 1 → q_arg (q_bec A n κ a b p q m 3) m ∧ q_arg (q_bec A n κ a b p q m 4) m := fun m hm => by
  by_cases e : m = n
  · subst e
    rw [q_bec_3, q_bec_4]
    exact ⟨ha, hb⟩
  · rw [q_bec_old e, q_bec_old e]
    exact hA m (by omega)
set_option maxRecDepth 100000 in
set_option maxHeartbeats 4000000 in
theorem cC_addWithShape {g : am_G} {d : Nat} {Q : Option am_V → am_H → Prop} {Y : Nat → Nat → Nat → am_V} {A P : Nat → Nat → Int32} {st mk lv : Nat → Int32} {cl pr : Nat → Nat → Int32} {us : Nat → Int32} {si wk : Int32} {n : Nat} {x y : Int32} (hn : n < 28) (hA : ∀ m, m < n + 1 → q_arg (A m 3) m ∧ q_arg (A m 4) m) (ka : ∀ A1 T S L, A1 = up2 (up2 A n 1 x) n 2 y → T = q_cpn (n + 1) A1 P → S = q_idn (n + 1) st → L = q_live (n + 1) mk S T lv → Q (some (am_I (nI n))) (hm (xc A1 T S mk L cl pr us (nI (n + 1)) 0 0) Y)) : am_C g mC_addWithShape (d + 3) 0 0 [am_O 0 0, am_I x, am_I y] (hm (xc A P st mk lv cl pr us (nI n) si wk) Y) Q := by
  refine am_enter (lv := [some (am_O 0 0), some (am_I x), some (am_I y), none]) rfl rfl (am_cat1 rfl) (Nat.le_of_ble_eq_true rfl) ?_
  refine am_aload_n (i := 0) dC_addWithShape_0 rfl rfl ?_
  refine am_getf dC_addWithShape_1 flC_40 (by first | rfl | exact sk8 (by omega) | exact sk9 (by omega) | exact sk10 (by omega) | exact sk11 (by omega)) rfl ?_
  refine am_istore_n (i := 3) dC_addWithShape_4 rfl (by decide) ?_
  refine am_aload_n (i := 0) dC_addWithShape_5 rfl rfl ?_
  refine am_getf dC_addWithShape_6 flC_11 (by first | rfl | exact sk8 (by omega) | exact sk9 (by omega) | exact sk10 (by omega) | exact sk11 (by omega)) rfl ?_
  refine am_iload_n (i := 3) dC_addWithShape_9 rfl rfl ?_
  refine am_aald dC_addWithShape_10 (by first | rfl | exact sk8 (by omega) | exact sk9 (by omega) | exact sk10 (by omega) | exact sk11 (by omega)) rfl (by first | omega | assumption | decide) (by decide) (by decide) rfl rfl ?_
  refine am_iload_n (i := 1) dC_addWithShape_11 rfl rfl ?_
  refine am_iload_n (i := 2) dC_addWithShape_12 rfl rfl ?_
  refine am_callV (ac' := 0) (as' := 0) (xs := [_, _]) dC_addWithShape_13 lkC_151 (by first | rfl | exact sk8 (by omega) | exact sk9 (by omega) | exact sk10 (by omega) | exact sk11 (by omega)) rfl rfl rfl rfl (Nat.le_of_ble_eq_true rfl) rfl rfl (cO_takeShape8 (v := n) hn ?_)
  refine am_aload_n (i := 0) dC_addWithShape_16 rfl rfl ?_
  refine am_dup dC_addWithShape_17 rfl ?_
  refine am_getf dC_addWithShape_18 flC_40 (by first | rfl | exact sk8 (by omega) | exact sk9 (by omega) | exact sk10 (by omega) | exact sk11 (by omega)) rfl ?_
  refine am_iconst (v := 1) dC_addWithShape_21 (by decide) ?_
  refine am_iadd dC_addWithShape_22 ?_
  refine am_sT (st' := am_I (nI (n + 1)) :: _) (congrArg (fun z => am_I z :: _) (nI_1 n)) ?_
  refine am_putf' dC_addWithShape_23 flC_40 (by first | rfl | exact sk8 (by omega) | exact sk9 (by omega) | exact sk10 (by omega) | exact sk11 (by omega)) rfl (fun _ => ⟨rfl, rfl⟩) (by first | exact wx_st | exact wx_mk | exact wx_lv | exact wx_us | exact wx_A | exact wx_P | exact wx_cl | exact wx_pr | exact wx_va | exact wx_si | exact wx_wk) ?_
  have hA' : ∀ m, m < n + 1 → q_arg (up2 (up2 A n 1 x) n 2 y m 3) m ∧ q_arg (up2 (up2 A n 1 x) n 2 y m 4) m := fun m hm => by
    rw [up2_k (by decide), up2_k (by decide), up2_k (by decide), up2_k (by decide)]
    exact hA m hm
  refine am_aload_n (i := 0) dC_addWithShape_26 rfl rfl ?_
  refine am_callV (ac' := 0) (as' := 0) (xs := []) dC_addWithShape_27 lkC_95 (by first | rfl | exact sk8 (by omega) | exact sk9 (by omega) | exact sk10 (by omega) | exact sk11 (by omega)) rfl rfl rfl rfl (Nat.le_of_ble_eq_true rfl) rfl rfl (cC_undo (n := n + 1) (by omega) hA' (fun T S L eT eS eL => ?_))
  refine am_iload_n (i := 3) dC_addWithShape_30 rfl rfl ?_
  refine am_iret (st := []) rfl rfl dC_addWithShape_31 ?_
  exact ka _ _ _ _ rfl eT eS eL
abbrev q_shOk (x y : Int32) : Prop := ¬ x < 1 ∧ ¬ 4 < x ∧ ¬ y < 1 ∧ ¬ 4 < y
abbrev q_plOk (x y : Int32) : Prop := ¬ x < 0 ∧ ¬ 4 ≤ x ∧ ¬ y < 0 ∧ ¬ 4 ≤ y
abbrev q_snOk (x y : Int32) : Prop := x = 1 ∨ (¬ y < 0 ∧ ((x = 0 ∧ ¬ 4 ≤ y) ∨ (¬ x = 0 ∧ ¬ 2 ≤ y)))
abbrev q_srcOk (κ x y p : Int32) : Prop := ¬ κ < 0 ∧ ¬ 2 < κ ∧ q_shOk x y ∧ q_snOk κ p
abbrev q_one (κ : Int32) : Prop := κ = 6 ∨ κ = 7 ∨ κ = 9
abbrev q_opOk (n : Nat) (κ a b p : Int32) : Prop := ¬ κ < 3 ∧ ¬ 9 < κ ∧ q_val a n ∧ q_val b n ∧ (q_one κ → b = a) ∧ ¬ p < 0 ∧ p ≤ (if κ = 9 then 1 else 0)
abbrev q_opFit (A : Nat → Nat → Int32) (κ : Int32) (a b : Nat) : Prop := (κ = 8 ∧ A a 2 = A b 1) ∨ (¬ κ = 8 ∧ A a 1 = A b 1 ∧ A a 2 = A b 2)
def q_opR (A : Nat → Nat → Int32) (κ p : Int32) (a : Nat) : Int32 := if κ = 7 then A a 2 else if κ = 9 ∧ p = 0 then 1 else A a 1
def q_opC (A : Nat → Nat → Int32) (κ p : Int32) (a b : Nat) : Int32 := if κ = 7 then A a 1 else if κ = 9 ∧ p = 1 then 1 else A b 2
abbrev q_reOk (n : Nat) (κ a x y : Int32) : Prop := ¬ κ < 10 ∧ ¬ 11 < κ ∧ q_val a n ∧ q_shOk x y
abbrev q_reFit (A : Nat → Nat → Int32) (κ x y : Int32) (a : Nat) : Prop := (κ = 10 ∧ (A a 1 = 1 ∨ A a 1 = x) ∧ (A a 2 = 1 ∨ A a 2 = y)) ∨ (¬ κ = 10 ∧ A a 1 * A a 2 = x * y)
abbrev q_paOk (n : Nat) (a p q x y : Int32) : Prop := q_val a n ∧ q_plOk p q ∧ q_shOk x y
abbrev q_paFit (A : Nat → Nat → Int32) (p q x y : Int32) (a : Nat) : Prop := ¬ A a 1 < p + x ∧ q + y ≤ A a 2
set_option maxRecDepth 100000 in
set_option maxHeartbeats 4000000 in
theorem cC_source {g : am_G} {d : Nat} {Q : Option am_V → am_H → Prop} {Y : Nat → Nat → Nat → am_V} {A P : Nat → Nat → Int32} {st mk lv : Nat → Int32} {cl pr : Nat → Nat → Int32} {us : Nat → Int32} {si wk : Int32} {n : Nat} {κ x y p : Int32} (hn : n ≤ 28) (hA : ∀ m, m < n → q_arg (A m 3) m ∧ q_arg (A m 4) m) (kr : ¬ q_srcOk κ x y p → Q (some (am_I (-1))) (hm (xc A P st mk lv cl pr us (nI n) si wk) Y)) (kf : q_srcOk κ x y p → n = 28 → Q (some (am_I (-2))) (hm (xc A P st mk lv cl pr us (nI n) si wk) Y)) (ka : q_srcOk κ x y p → n < 28 → ∀ A1 T S L, A1 = q_new A n κ (-1) (-1) p 0 x y → T = q_cpn (n + 1) A1 P → S = q_idn (n + 1) st → L = q_live (n + 1) mk S T lv → Q (some (am_I (nI n))) (hm (xc A1 T S mk L cl pr us (nI (n + 1)) 0 0) Y)) : am_C g mC_source (d + 4) 0 0 [am_O 0 0, am_I κ, am_I x, am_I y, am_I p] (hm (xc A P st mk lv cl pr us (nI n) si wk) Y) Q := by
  refine am_enter (lv := [some (am_O 0 0), some (am_I κ), some (am_I x), some (am_I y), some (am_I p)]) rfl rfl (am_cat1 rfl) (Nat.le_of_ble_eq_true rfl) ?_
  refine am_iload_n (i := 1) dC_source_0 rfl rfl ?_
  refine am_if_lt (tgt := 26) dC_source_1 (by decide) (fun c1 => ?_) (fun c1 => ?_)
  · refine am_iconst (v := (-1)) dC_source_26 (by decide) ?_
    refine am_iret (st := []) rfl rfl dC_source_27 ?_
    exact kr (by grind)
  · refine am_iload_n (i := 1) dC_source_4 rfl rfl ?_
    refine am_iconst (v := 2) dC_source_5 (by decide) ?_
    refine am_icmp_gt (tgt := 26) dC_source_6 (by decide) (fun c6 => ?_) (fun c6 => ?_)
    · refine am_iconst (v := (-1)) dC_source_26 (by decide) ?_
      refine am_iret (st := []) rfl rfl dC_source_27 ?_
      exact kr (by grind)
    · refine am_iload_n (i := 2) dC_source_9 rfl rfl ?_
      refine am_iload_n (i := 3) dC_source_10 rfl rfl ?_
      refine am_callS (ac' := 0) (as' := 0) (xs := [_, _]) dC_source_11 lkC_52 rfl rfl (Nat.le_of_ble_eq_true rfl) rfl rfl (cC_isShape (fun cs => ?_) (fun cs => ?_))
      · refine am_if_eq_F (tgt := 26) dC_source_14 (by decide) (by decide) ?_
        refine am_iload_n (i := 1) dC_source_17 rfl rfl ?_
        refine am_iload (i := 4) dC_source_18 rfl ?_
        refine am_callS (ac' := 0) (as' := 0) (xs := [_, _]) dC_source_20 lkC_56 rfl rfl (Nat.le_of_ble_eq_true rfl) rfl rfl (cC_isSourceNumber (fun cn => ?_) (fun cn => ?_))
        · refine am_if_ne_T (tgt := 28) dC_source_23 (by decide) (by decide) ?_
          refine am_aload_n (i := 0) dC_source_28 rfl rfl ?_
          refine am_getf dC_source_29 flC_40 (by first | rfl | exact sk8 (by omega) | exact sk9 (by omega) | exact sk10 (by omega) | exact sk11 (by omega)) rfl ?_
          refine am_bipush (v := 28) dC_source_32 (by decide) ?_
          refine am_icmp_lt (tgt := 40) dC_source_34 (by decide) (fun c34 => ?_) (fun c34 => ?_)
          · have hlt : n < 28 := (q_lt28 hn).mp c34
            refine am_aload_n (i := 0) dC_source_40 rfl rfl ?_
            refine am_getf dC_source_41 flC_11 (by first | rfl | exact sk8 (by omega) | exact sk9 (by omega) | exact sk10 (by omega) | exact sk11 (by omega)) rfl ?_
            refine am_aload_n (i := 0) dC_source_44 rfl rfl ?_
            refine am_getf dC_source_45 flC_40 (by first | rfl | exact sk8 (by omega) | exact sk9 (by omega) | exact sk10 (by omega) | exact sk11 (by omega)) rfl ?_
            refine am_aald dC_source_48 (by first | rfl | exact sk8 (by omega) | exact sk9 (by omega) | exact sk10 (by omega) | exact sk11 (by omega)) rfl (by first | omega | assumption | decide) (by decide) (by decide) rfl rfl ?_
            refine am_iload_n (i := 1) dC_source_49 rfl rfl ?_
            refine am_iconst (v := (-1)) dC_source_50 (by decide) ?_
            refine am_iconst (v := (-1)) dC_source_51 (by decide) ?_
            refine am_iload (i := 4) dC_source_52 rfl ?_
            refine am_iconst (v := 0) dC_source_54 (by decide) ?_
            refine am_callV (ac' := 0) (as' := 0) (xs := [_, _, _, _, _]) dC_source_55 lkC_59 (by first | rfl | exact sk8 (by omega) | exact sk9 (by omega) | exact sk10 (by omega) | exact sk11 (by omega)) rfl rfl rfl rfl (Nat.le_of_ble_eq_true rfl) rfl rfl (cO_become8 (v := n) hlt ?_)
            refine am_aload_n (i := 0) dC_source_58 rfl rfl ?_
            refine am_iload_n (i := 2) dC_source_59 rfl rfl ?_
            refine am_iload_n (i := 3) dC_source_60 rfl rfl ?_
            refine am_callV (ac' := 0) (as' := 0) (xs := [_, _]) dC_source_61 lkC_63 (by first | rfl | exact sk8 (by omega) | exact sk9 (by omega) | exact sk10 (by omega) | exact sk11 (by omega)) rfl rfl rfl rfl (Nat.le_of_ble_eq_true rfl) rfl rfl (cC_addWithShape (A := q_bec A n κ (-1) (-1) p 0) hlt (q_args_bec hA (Or.inl rfl) (Or.inl rfl)) (fun A1 T S L e1 e2 e3 e4 => ?_))
            refine am_iret (st := []) rfl rfl dC_source_64 ?_
            exact ka ⟨c1, c6, cs, cn⟩ hlt _ _ _ _ e1 e2 e3 e4
          · refine am_bipush (v := (-2)) dC_source_37 (by decide) ?_
            refine am_iret (st := []) rfl rfl dC_source_39 ?_
            exact kf ⟨c1, c6, cs, cn⟩ (by have := mt (q_lt28 hn).mpr c34; omega)
        · refine am_if_ne_F (tgt := 28) dC_source_23 (by decide) (by decide) ?_
          refine am_iconst (v := (-1)) dC_source_26 (by decide) ?_
          refine am_iret (st := []) rfl rfl dC_source_27 ?_
          exact kr (by grind)
      · refine am_if_eq_T (tgt := 26) dC_source_14 (by decide) (by decide) ?_
        refine am_iconst (v := (-1)) dC_source_26 (by decide) ?_
        refine am_iret (st := []) rfl rfl dC_source_27 ?_
        exact kr (by grind)
set_option maxRecDepth 100000 in
set_option maxHeartbeats 4000000 in
theorem cC_reshape {g : am_G} {d : Nat} {Q : Option am_V → am_H → Prop} {Y : Nat → Nat → Nat → am_V} {A P : Nat → Nat → Int32} {st mk lv : Nat → Int32} {cl pr : Nat → Nat → Int32} {us : Nat → Int32} {si wk : Int32} {n : Nat} {κ xa x y : Int32} (hn : n ≤ 28) (hA : ∀ m, m < n → q_arg (A m 3) m ∧ q_arg (A m 4) m) (kr : ¬ q_reOk n κ xa x y → Q (some (am_I (-1))) (hm (xc A P st mk lv cl pr us (nI n) si wk) Y)) (ks : ∀ a, a < n → xa = nI a → q_reOk n κ xa x y → ¬ q_reFit A κ x y a → Q (some (am_I (-3))) (hm (xc A P st mk lv cl pr us (nI n) si wk) Y)) (kf : ∀ a, a < n → xa = nI a → q_reOk n κ xa x y → q_reFit A κ x y a → n = 28 → Q (some (am_I (-2))) (hm (xc A P st mk lv cl pr us (nI n) si wk) Y)) (ka : ∀ a, a < n → xa = nI a → q_reOk n κ xa x y → q_reFit A κ x y a → n < 28 → ∀ A1 T S L, A1 = q_new A n κ xa (-1) 0 0 x y → T = q_cpn (n + 1) A1 P → S = q_idn (n + 1) st → L = q_live (n + 1) mk S T lv → Q (some (am_I (nI n))) (hm (xc A1 T S mk L cl pr us (nI (n + 1)) 0 0) Y)) : am_C g mC_reshape (d + 4) 0 0 [am_O 0 0, am_I κ, am_I xa, am_I x, am_I y] (hm (xc A P st mk lv cl pr us (nI n) si wk) Y) Q := by
  refine am_enter (lv := [some (am_O 0 0), some (am_I κ), some (am_I xa), some (am_I x), some (am_I y), none, none]) rfl rfl (am_cat1 rfl) (Nat.le_of_ble_eq_true rfl) ?_
  refine am_iload_n (i := 1) dC_reshape_0 rfl rfl ?_
  refine am_bipush (v := 10) dC_reshape_1 (by decide) ?_
  refine am_icmp_lt (tgt := 29) dC_reshape_3 (by decide) (fun c3 => ?_) (fun c3 => ?_)
  · refine am_iconst (v := (-1)) dC_reshape_29 (by decide) ?_
    refine am_iret (st := []) rfl rfl dC_reshape_30 ?_
    exact kr (by grind)
  · refine am_iload_n (i := 1) dC_reshape_6 rfl rfl ?_
    refine am_bipush (v := 11) dC_reshape_7 (by decide) ?_
    refine am_icmp_gt (tgt := 29) dC_reshape_9 (by decide) (fun c9 => ?_) (fun c9 => ?_)
    · refine am_iconst (v := (-1)) dC_reshape_29 (by decide) ?_
      refine am_iret (st := []) rfl rfl dC_reshape_30 ?_
      exact kr (by grind)
    · refine am_aload_n (i := 0) dC_reshape_12 rfl rfl ?_
      refine am_iload_n (i := 2) dC_reshape_13 rfl rfl ?_
      refine am_callV (ac' := 0) (as' := 0) (xs := [_]) dC_reshape_14 lkC_67 (by first | rfl | exact sk8 (by omega) | exact sk9 (by omega) | exact sk10 (by omega) | exact sk11 (by omega)) rfl rfl rfl rfl (Nat.le_of_ble_eq_true rfl) rfl rfl (cC_isValue rfl hn (fun a ha ea => ?_) (fun na => ?_))
      · refine am_if_eq_F (tgt := 29) dC_reshape_17 (by decide) (by decide) ?_
        refine am_iload_n (i := 3) dC_reshape_20 rfl rfl ?_
        refine am_iload (i := 4) dC_reshape_21 rfl ?_
        refine am_callS (ac' := 0) (as' := 0) (xs := [_, _]) dC_reshape_23 lkC_52 rfl rfl (Nat.le_of_ble_eq_true rfl) rfl rfl (cC_isShape (fun cs => ?_) (fun cs => ?_))
        · refine am_if_ne_T (tgt := 31) dC_reshape_26 (by decide) (by decide) ?_
          refine am_aload_n (i := 0) dC_reshape_31 rfl rfl ?_
          refine am_getf dC_reshape_32 flC_11 (by first | rfl | exact sk8 (by omega) | exact sk9 (by omega) | exact sk10 (by omega) | exact sk11 (by omega)) rfl ?_
          refine am_iload_n (i := 2) dC_reshape_35 rfl rfl ?_
          refine am_aald dC_reshape_36 (by first | rfl | exact sk8 (by omega) | exact sk9 (by omega) | exact sk10 (by omega) | exact sk11 (by omega)) ea (by first | omega | assumption | decide) (by decide) (by decide) rfl rfl ?_
          refine am_astore (i := 5) dC_reshape_37 (by decide) ?_
          refine am_iload_n (i := 1) dC_reshape_39 rfl rfl ?_
          refine am_bipush (v := 10) dC_reshape_40 (by decide) ?_
          refine am_icmp_ne (tgt := 78) dC_reshape_42 (by decide) (fun c42 => ?_) (fun c42 => ?_)
          · refine am_aload (i := 5) dC_reshape_78 rfl ?_
            refine am_getf dC_reshape_80 flC_83 (by first | rfl | exact sk8 (by omega) | exact sk9 (by omega) | exact sk10 (by omega) | exact sk11 (by omega)) rfl ?_
            refine am_aload (i := 5) dC_reshape_83 rfl ?_
            refine am_getf dC_reshape_85 flC_89 (by first | rfl | exact sk8 (by omega) | exact sk9 (by omega) | exact sk10 (by omega) | exact sk11 (by omega)) rfl ?_
            refine am_imul dC_reshape_88 ?_
            refine am_iload_n (i := 3) dC_reshape_89 rfl rfl ?_
            refine am_iload (i := 4) dC_reshape_90 rfl ?_
            refine am_imul dC_reshape_92 ?_
            refine am_icmp_ne (tgt := 100) dC_reshape_93 (by decide) (fun c93 => ?_) (fun c93 => ?_)
            · refine am_iconst (v := 0) dC_reshape_100 (by decide) ?_
              refine am_istore (i := 6) dC_reshape_101 (by decide) ?_
              refine am_iload (i := 6) dC_reshape_103 rfl ?_
              refine am_if_ne_F (tgt := 111) dC_reshape_105 (by decide) (by decide) ?_
              refine am_bipush (v := (-3)) dC_reshape_108 (by decide) ?_
              refine am_iret (st := []) rfl rfl dC_reshape_110 ?_
              exact ks a ha ea ⟨c3, c9, ea ▸ q_val_of ha hn, cs⟩ (by grind)
            · refine am_iconst (v := 1) dC_reshape_96 (by decide) ?_
              refine am_goto (tgt := 101) dC_reshape_97 (by decide) ?_
              refine am_istore (i := 6) dC_reshape_101 (by decide) ?_
              refine am_iload (i := 6) dC_reshape_103 rfl ?_
              refine am_if_ne_T (tgt := 111) dC_reshape_105 (by decide) (by decide) ?_
              refine am_aload_n (i := 0) dC_reshape_111 rfl rfl ?_
              refine am_getf dC_reshape_112 flC_40 (by first | rfl | exact sk8 (by omega) | exact sk9 (by omega) | exact sk10 (by omega) | exact sk11 (by omega)) rfl ?_
              refine am_bipush (v := 28) dC_reshape_115 (by decide) ?_
              refine am_icmp_lt (tgt := 123) dC_reshape_117 (by decide) (fun c117 => ?_) (fun c117 => ?_)
              · have hlt : n < 28 := (q_lt28 hn).mp c117
                refine am_aload_n (i := 0) dC_reshape_123 rfl rfl ?_
                refine am_getf dC_reshape_124 flC_11 (by first | rfl | exact sk8 (by omega) | exact sk9 (by omega) | exact sk10 (by omega) | exact sk11 (by omega)) rfl ?_
                refine am_aload_n (i := 0) dC_reshape_127 rfl rfl ?_
                refine am_getf dC_reshape_128 flC_40 (by first | rfl | exact sk8 (by omega) | exact sk9 (by omega) | exact sk10 (by omega) | exact sk11 (by omega)) rfl ?_
                refine am_aald dC_reshape_131 (by first | rfl | exact sk8 (by omega) | exact sk9 (by omega) | exact sk10 (by omega) | exact sk11 (by omega)) rfl (by first | omega | assumption | decide) (by decide) (by decide) rfl rfl ?_
                refine am_iload_n (i := 1) dC_reshape_132 rfl rfl ?_
                refine am_iload_n (i := 2) dC_reshape_133 rfl rfl ?_
                refine am_iconst (v := (-1)) dC_reshape_134 (by decide) ?_
                refine am_iconst (v := 0) dC_reshape_135 (by decide) ?_
                refine am_iconst (v := 0) dC_reshape_136 (by decide) ?_
                refine am_callV (ac' := 0) (as' := 0) (xs := [_, _, _, _, _]) dC_reshape_137 lkC_59 (by first | rfl | exact sk8 (by omega) | exact sk9 (by omega) | exact sk10 (by omega) | exact sk11 (by omega)) rfl rfl rfl rfl (Nat.le_of_ble_eq_true rfl) rfl rfl (cO_become8 (v := n) hlt ?_)
                refine am_aload_n (i := 0) dC_reshape_140 rfl rfl ?_
                refine am_iload_n (i := 3) dC_reshape_141 rfl rfl ?_
                refine am_iload (i := 4) dC_reshape_142 rfl ?_
                refine am_callV (ac' := 0) (as' := 0) (xs := [_, _]) dC_reshape_144 lkC_63 (by first | rfl | exact sk8 (by omega) | exact sk9 (by omega) | exact sk10 (by omega) | exact sk11 (by omega)) rfl rfl rfl rfl (Nat.le_of_ble_eq_true rfl) rfl rfl (cC_addWithShape (A := q_bec A n κ xa (-1) 0 0) hlt (q_args_bec hA (Or.inr ⟨a, ha, ea⟩) (Or.inl rfl)) (fun A1 T S L e1 e2 e3 e4 => ?_))
                refine am_iret (st := []) rfl rfl dC_reshape_147 ?_
                exact ka a ha ea ⟨c3, c9, ea ▸ q_val_of ha hn, cs⟩ (by grind) hlt _ _ _ _ e1 e2 e3 e4
              · refine am_bipush (v := (-2)) dC_reshape_120 (by decide) ?_
                refine am_iret (st := []) rfl rfl dC_reshape_122 ?_
                exact kf a ha ea ⟨c3, c9, ea ▸ q_val_of ha hn, cs⟩ (by grind) (by have := mt (q_lt28 hn).mpr c117; omega)
          · refine am_aload (i := 5) dC_reshape_45 rfl ?_
            refine am_getf dC_reshape_47 flC_83 (by first | rfl | exact sk8 (by omega) | exact sk9 (by omega) | exact sk10 (by omega) | exact sk11 (by omega)) rfl ?_
            refine am_iload_n (i := 3) dC_reshape_50 rfl rfl ?_
            refine am_callS (ac' := 0) (as' := 0) (xs := [_, _]) dC_reshape_51 lkC_86 rfl rfl (Nat.le_of_ble_eq_true rfl) rfl rfl (cC_spreads (fun c51 => ?_) (fun c51 => ?_))
            · refine am_if_eq_F (tgt := 74) dC_reshape_54 (by decide) (by decide) ?_
              refine am_aload (i := 5) dC_reshape_57 rfl ?_
              refine am_getf dC_reshape_59 flC_89 (by first | rfl | exact sk8 (by omega) | exact sk9 (by omega) | exact sk10 (by omega) | exact sk11 (by omega)) rfl ?_
              refine am_iload (i := 4) dC_reshape_62 rfl ?_
              refine am_callS (ac' := 0) (as' := 0) (xs := [_, _]) dC_reshape_64 lkC_86 rfl rfl (Nat.le_of_ble_eq_true rfl) rfl rfl (cC_spreads (fun c64 => ?_) (fun c64 => ?_))
              · refine am_if_eq_F (tgt := 74) dC_reshape_67 (by decide) (by decide) ?_
                refine am_iconst (v := 1) dC_reshape_70 (by decide) ?_
                refine am_goto (tgt := 101) dC_reshape_71 (by decide) ?_
                refine am_istore (i := 6) dC_reshape_101 (by decide) ?_
                refine am_iload (i := 6) dC_reshape_103 rfl ?_
                refine am_if_ne_T (tgt := 111) dC_reshape_105 (by decide) (by decide) ?_
                refine am_aload_n (i := 0) dC_reshape_111 rfl rfl ?_
                refine am_getf dC_reshape_112 flC_40 (by first | rfl | exact sk8 (by omega) | exact sk9 (by omega) | exact sk10 (by omega) | exact sk11 (by omega)) rfl ?_
                refine am_bipush (v := 28) dC_reshape_115 (by decide) ?_
                refine am_icmp_lt (tgt := 123) dC_reshape_117 (by decide) (fun c117 => ?_) (fun c117 => ?_)
                · have hlt : n < 28 := (q_lt28 hn).mp c117
                  refine am_aload_n (i := 0) dC_reshape_123 rfl rfl ?_
                  refine am_getf dC_reshape_124 flC_11 (by first | rfl | exact sk8 (by omega) | exact sk9 (by omega) | exact sk10 (by omega) | exact sk11 (by omega)) rfl ?_
                  refine am_aload_n (i := 0) dC_reshape_127 rfl rfl ?_
                  refine am_getf dC_reshape_128 flC_40 (by first | rfl | exact sk8 (by omega) | exact sk9 (by omega) | exact sk10 (by omega) | exact sk11 (by omega)) rfl ?_
                  refine am_aald dC_reshape_131 (by first | rfl | exact sk8 (by omega) | exact sk9 (by omega) | exact sk10 (by omega) | exact sk11 (by omega)) rfl (by first | omega | assumption | decide) (by decide) (by decide) rfl rfl ?_
                  refine am_iload_n (i := 1) dC_reshape_132 rfl rfl ?_
                  refine am_iload_n (i := 2) dC_reshape_133 rfl rfl ?_
                  refine am_iconst (v := (-1)) dC_reshape_134 (by decide) ?_
                  refine am_iconst (v := 0) dC_reshape_135 (by decide) ?_
                  refine am_iconst (v := 0) dC_reshape_136 (by decide) ?_
                  refine am_callV (ac' := 0) (as' := 0) (xs := [_, _, _, _, _]) dC_reshape_137 lkC_59 (by first | rfl | exact sk8 (by omega) | exact sk9 (by omega) | exact sk10 (by omega) | exact sk11 (by omega)) rfl rfl rfl rfl (Nat.le_of_ble_eq_true rfl) rfl rfl (cO_become8 (v := n) hlt ?_)
                  refine am_aload_n (i := 0) dC_reshape_140 rfl rfl ?_
                  refine am_iload_n (i := 3) dC_reshape_141 rfl rfl ?_
                  refine am_iload (i := 4) dC_reshape_142 rfl ?_
                  refine am_callV (ac' := 0) (as' := 0) (xs := [_, _]) dC_reshape_144 lkC_63 (by first | rfl | exact sk8 (by omega) | exact sk9 (by omega) | exact sk10 (by omega) | exact sk11 (by omega)) rfl rfl rfl rfl (Nat.le_of_ble_eq_true rfl) rfl rfl (cC_addWithShape (A := q_bec A n κ xa (-1) 0 0) hlt (q_args_bec hA (Or.inr ⟨a, ha, ea⟩) (Or.inl rfl)) (fun A1 T S L e1 e2 e3 e4 => ?_))
                  refine am_iret (st := []) rfl rfl dC_reshape_147 ?_
                  exact ka a ha ea ⟨c3, c9, ea ▸ q_val_of ha hn, cs⟩ (by grind) hlt _ _ _ _ e1 e2 e3 e4
                · refine am_bipush (v := (-2)) dC_reshape_120 (by decide) ?_
                  refine am_iret (st := []) rfl rfl dC_reshape_122 ?_
                  exact kf a ha ea ⟨c3, c9, ea ▸ q_val_of ha hn, cs⟩ (by grind) (by have := mt (q_lt28 hn).mpr c117; omega)
              · refine am_if_eq_T (tgt := 74) dC_reshape_67 (by decide) (by decide) ?_
                refine am_iconst (v := 0) dC_reshape_74 (by decide) ?_
                refine am_goto (tgt := 101) dC_reshape_75 (by decide) ?_
                refine am_istore (i := 6) dC_reshape_101 (by decide) ?_
                refine am_iload (i := 6) dC_reshape_103 rfl ?_
                refine am_if_ne_F (tgt := 111) dC_reshape_105 (by decide) (by decide) ?_
                refine am_bipush (v := (-3)) dC_reshape_108 (by decide) ?_
                refine am_iret (st := []) rfl rfl dC_reshape_110 ?_
                exact ks a ha ea ⟨c3, c9, ea ▸ q_val_of ha hn, cs⟩ (by grind)
            · refine am_if_eq_T (tgt := 74) dC_reshape_54 (by decide) (by decide) ?_
              refine am_iconst (v := 0) dC_reshape_74 (by decide) ?_
              refine am_goto (tgt := 101) dC_reshape_75 (by decide) ?_
              refine am_istore (i := 6) dC_reshape_101 (by decide) ?_
              refine am_iload (i := 6) dC_reshape_103 rfl ?_
              refine am_if_ne_F (tgt := 111) dC_reshape_105 (by decide) (by decide) ?_
              refine am_bipush (v := (-3)) dC_reshape_108 (by decide) ?_
              refine am_iret (st := []) rfl rfl dC_reshape_110 ?_
              exact ks a ha ea ⟨c3, c9, ea ▸ q_val_of ha hn, cs⟩ (by grind)
        · refine am_if_ne_F (tgt := 31) dC_reshape_26 (by decide) (by decide) ?_
          refine am_iconst (v := (-1)) dC_reshape_29 (by decide) ?_
          refine am_iret (st := []) rfl rfl dC_reshape_30 ?_
          exact kr (by grind)
      · refine am_if_eq_T (tgt := 29) dC_reshape_17 (by decide) (by decide) ?_
        refine am_iconst (v := (-1)) dC_reshape_29 (by decide) ?_
        refine am_iret (st := []) rfl rfl dC_reshape_30 ?_
        exact kr (by grind)
set_option maxRecDepth 100000 in
set_option maxHeartbeats 4000000 in
theorem cC_part {g : am_G} {d : Nat} {Q : Option am_V → am_H → Prop} {Y : Nat → Nat → Nat → am_V} {A P : Nat → Nat → Int32} {st mk lv : Nat → Int32} {cl pr : Nat → Nat → Int32} {us : Nat → Int32} {si wk : Int32} {n : Nat} {xa p q x y : Int32} (hn : n ≤ 28) (hA : ∀ m, m < n → q_arg (A m 3) m ∧ q_arg (A m 4) m) (kr : ¬ q_paOk n xa p q x y → Q (some (am_I (-1))) (hm (xc A P st mk lv cl pr us (nI n) si wk) Y)) (ks : ∀ a, a < n → xa = nI a → q_paOk n xa p q x y → ¬ q_paFit A p q x y a → Q (some (am_I (-3))) (hm (xc A P st mk lv cl pr us (nI n) si wk) Y)) (kf : ∀ a, a < n → xa = nI a → q_paOk n xa p q x y → q_paFit A p q x y a → n = 28 → Q (some (am_I (-2))) (hm (xc A P st mk lv cl pr us (nI n) si wk) Y)) (ka : ∀ a, a < n → xa = nI a → q_paOk n xa p q x y → q_paFit A p q x y a → n < 28 → ∀ A1 T S L, A1 = q_new A n 12 xa (-1) p q x y → T = q_cpn (n + 1) A1 P → S = q_idn (n + 1) st → L = q_live (n + 1) mk S T lv → Q (some (am_I (nI n))) (hm (xc A1 T S mk L cl pr us (nI (n + 1)) 0 0) Y)) : am_C g mC_part (d + 4) 0 0 [am_O 0 0, am_I xa, am_I p, am_I q, am_I x, am_I y] (hm (xc A P st mk lv cl pr us (nI n) si wk) Y) Q := by
  refine am_enter (lv := [some (am_O 0 0), some (am_I xa), some (am_I p), some (am_I q), some (am_I x), some (am_I y)]) rfl rfl (am_cat1 rfl) (Nat.le_of_ble_eq_true rfl) ?_
  refine am_aload_n (i := 0) dC_part_0 rfl rfl ?_
  refine am_iload_n (i := 1) dC_part_1 rfl rfl ?_
  refine am_callV (ac' := 0) (as' := 0) (xs := [_]) dC_part_2 lkC_67 (by first | rfl | exact sk8 (by omega) | exact sk9 (by omega) | exact sk10 (by omega) | exact sk11 (by omega)) rfl rfl rfl rfl (Nat.le_of_ble_eq_true rfl) rfl rfl (cC_isValue rfl hn (fun a ha ea => ?_) (fun na => ?_))
  · refine am_if_eq_F (tgt := 26) dC_part_5 (by decide) (by decide) ?_
    refine am_iload_n (i := 2) dC_part_8 rfl rfl ?_
    refine am_iload_n (i := 3) dC_part_9 rfl rfl ?_
    refine am_callS (ac' := 0) (as' := 0) (xs := [_, _]) dC_part_10 lkC_92 rfl rfl (Nat.le_of_ble_eq_true rfl) rfl rfl (cC_isPlace (fun cp => ?_) (fun cp => ?_))
    · refine am_if_eq_F (tgt := 26) dC_part_13 (by decide) (by decide) ?_
      refine am_iload (i := 4) dC_part_16 rfl ?_
      refine am_iload (i := 5) dC_part_18 rfl ?_
      refine am_callS (ac' := 0) (as' := 0) (xs := [_, _]) dC_part_20 lkC_52 rfl rfl (Nat.le_of_ble_eq_true rfl) rfl rfl (cC_isShape (fun cs => ?_) (fun cs => ?_))
      · refine am_if_ne_T (tgt := 28) dC_part_23 (by decide) (by decide) ?_
        refine am_iload_n (i := 2) dC_part_28 rfl rfl ?_
        refine am_iload (i := 4) dC_part_29 rfl ?_
        refine am_iadd dC_part_31 ?_
        refine am_aload_n (i := 0) dC_part_32 rfl rfl ?_
        refine am_getf dC_part_33 flC_11 (by first | rfl | exact sk8 (by omega) | exact sk9 (by omega) | exact sk10 (by omega) | exact sk11 (by omega)) rfl ?_
        refine am_iload_n (i := 1) dC_part_36 rfl rfl ?_
        refine am_aald dC_part_37 (by first | rfl | exact sk8 (by omega) | exact sk9 (by omega) | exact sk10 (by omega) | exact sk11 (by omega)) ea (by first | omega | assumption | decide) (by decide) (by decide) rfl rfl ?_
        refine am_getf dC_part_38 flC_83 (by first | rfl | exact sk8 (by omega) | exact sk9 (by omega) | exact sk10 (by omega) | exact sk11 (by omega)) rfl ?_
        refine am_icmp_gt (tgt := 60) dC_part_41 (by decide) (fun c41 => ?_) (fun c41 => ?_)
        · refine am_bipush (v := (-3)) dC_part_60 (by decide) ?_
          refine am_iret (st := []) rfl rfl dC_part_62 ?_
          exact ks a ha ea ⟨ea ▸ q_val_of ha hn, cp, cs⟩ (by grind)
        · refine am_iload_n (i := 3) dC_part_44 rfl rfl ?_
          refine am_iload (i := 5) dC_part_45 rfl ?_
          refine am_iadd dC_part_47 ?_
          refine am_aload_n (i := 0) dC_part_48 rfl rfl ?_
          refine am_getf dC_part_49 flC_11 (by first | rfl | exact sk8 (by omega) | exact sk9 (by omega) | exact sk10 (by omega) | exact sk11 (by omega)) rfl ?_
          refine am_iload_n (i := 1) dC_part_52 rfl rfl ?_
          refine am_aald dC_part_53 (by first | rfl | exact sk8 (by omega) | exact sk9 (by omega) | exact sk10 (by omega) | exact sk11 (by omega)) ea (by first | omega | assumption | decide) (by decide) (by decide) rfl rfl ?_
          refine am_getf dC_part_54 flC_89 (by first | rfl | exact sk8 (by omega) | exact sk9 (by omega) | exact sk10 (by omega) | exact sk11 (by omega)) rfl ?_
          refine am_icmp_le (tgt := 63) dC_part_57 (by decide) (fun c57 => ?_) (fun c57 => ?_)
          · refine am_aload_n (i := 0) dC_part_63 rfl rfl ?_
            refine am_getf dC_part_64 flC_40 (by first | rfl | exact sk8 (by omega) | exact sk9 (by omega) | exact sk10 (by omega) | exact sk11 (by omega)) rfl ?_
            refine am_bipush (v := 28) dC_part_67 (by decide) ?_
            refine am_icmp_lt (tgt := 75) dC_part_69 (by decide) (fun c69 => ?_) (fun c69 => ?_)
            · have hlt : n < 28 := (q_lt28 hn).mp c69
              refine am_aload_n (i := 0) dC_part_75 rfl rfl ?_
              refine am_getf dC_part_76 flC_11 (by first | rfl | exact sk8 (by omega) | exact sk9 (by omega) | exact sk10 (by omega) | exact sk11 (by omega)) rfl ?_
              refine am_aload_n (i := 0) dC_part_79 rfl rfl ?_
              refine am_getf dC_part_80 flC_40 (by first | rfl | exact sk8 (by omega) | exact sk9 (by omega) | exact sk10 (by omega) | exact sk11 (by omega)) rfl ?_
              refine am_aald dC_part_83 (by first | rfl | exact sk8 (by omega) | exact sk9 (by omega) | exact sk10 (by omega) | exact sk11 (by omega)) rfl (by first | omega | assumption | decide) (by decide) (by decide) rfl rfl ?_
              refine am_bipush (v := 12) dC_part_84 (by decide) ?_
              refine am_iload_n (i := 1) dC_part_86 rfl rfl ?_
              refine am_iconst (v := (-1)) dC_part_87 (by decide) ?_
              refine am_iload_n (i := 2) dC_part_88 rfl rfl ?_
              refine am_iload_n (i := 3) dC_part_89 rfl rfl ?_
              refine am_callV (ac' := 0) (as' := 0) (xs := [_, _, _, _, _]) dC_part_90 lkC_59 (by first | rfl | exact sk8 (by omega) | exact sk9 (by omega) | exact sk10 (by omega) | exact sk11 (by omega)) rfl rfl rfl rfl (Nat.le_of_ble_eq_true rfl) rfl rfl (cO_become8 (v := n) hlt ?_)
              refine am_aload_n (i := 0) dC_part_93 rfl rfl ?_
              refine am_iload (i := 4) dC_part_94 rfl ?_
              refine am_iload (i := 5) dC_part_96 rfl ?_
              refine am_callV (ac' := 0) (as' := 0) (xs := [_, _]) dC_part_98 lkC_63 (by first | rfl | exact sk8 (by omega) | exact sk9 (by omega) | exact sk10 (by omega) | exact sk11 (by omega)) rfl rfl rfl rfl (Nat.le_of_ble_eq_true rfl) rfl rfl (cC_addWithShape (A := q_bec A n 12 xa (-1) p q) hlt (q_args_bec hA (Or.inr ⟨a, ha, ea⟩) (Or.inl rfl)) (fun A1 T S L e1 e2 e3 e4 => ?_))
              refine am_iret (st := []) rfl rfl dC_part_101 ?_
              exact ka a ha ea ⟨ea ▸ q_val_of ha hn, cp, cs⟩ (by grind) hlt _ _ _ _ e1 e2 e3 e4
            · refine am_bipush (v := (-2)) dC_part_72 (by decide) ?_
              refine am_iret (st := []) rfl rfl dC_part_74 ?_
              exact kf a ha ea ⟨ea ▸ q_val_of ha hn, cp, cs⟩ (by grind) (by have := mt (q_lt28 hn).mpr c69; omega)
          · refine am_bipush (v := (-3)) dC_part_60 (by decide) ?_
            refine am_iret (st := []) rfl rfl dC_part_62 ?_
            exact ks a ha ea ⟨ea ▸ q_val_of ha hn, cp, cs⟩ (by grind)
      · refine am_if_ne_F (tgt := 28) dC_part_23 (by decide) (by decide) ?_
        refine am_iconst (v := (-1)) dC_part_26 (by decide) ?_
        refine am_iret (st := []) rfl rfl dC_part_27 ?_
        exact kr (by grind)
    · refine am_if_eq_T (tgt := 26) dC_part_13 (by decide) (by decide) ?_
      refine am_iconst (v := (-1)) dC_part_26 (by decide) ?_
      refine am_iret (st := []) rfl rfl dC_part_27 ?_
      exact kr (by grind)
  · refine am_if_eq_T (tgt := 26) dC_part_5 (by decide) (by decide) ?_
    refine am_iconst (v := (-1)) dC_part_26 (by decide) ?_
    refine am_iret (st := []) rfl rfl dC_part_27 ?_
    exact kr (by grind)
set_option maxRecDepth 100000 in
set_option maxHeartbeats 4000000 in
theorem cC_operation {g : am_G} {d : Nat} {Q : Option am_V → am_H → Prop} {Y : Nat → Nat → Nat → am_V} {A P : Nat → Nat → Int32} {st mk lv : Nat → Int32} {cl pr : Nat → Nat → Int32} {us : Nat → Int32} {si wk : Int32} {n : Nat} {κ xa xb p : Int32} (hn : n ≤ 28) (hA : ∀ m, m < n → q_arg (A m 3) m ∧ q_arg (A m 4) m) (kr : ¬ q_opOk n κ xa xb p → Q (some (am_I (-1))) (hm (xc A P st mk lv cl pr us (nI n) si wk) Y)) (ks : ∀ a b, a < n → b < n → xa = nI a → xb = nI b → q_opOk n κ xa xb p → ¬ q_opFit A κ a b → Q (some (am_I (-3))) (hm (xc A P st mk lv cl pr us (nI n) si wk) Y)) (kf : ∀ a b, a < n → b < n → xa = nI a → xb = nI b → q_opOk n κ xa xb p → q_opFit A κ a b → n = 28 → Q (some (am_I (-2))) (hm (xc A P st mk lv cl pr us (nI n) si wk) Y)) (ka : ∀ a b, a < n → b < n → xa = nI a → xb = nI b → q_opOk n κ xa xb p → q_opFit A κ a b → n < 28 → ∀ A1 T S L, A1 = q_new A n κ xa (if q_one κ then -1 else xb) p 0 (q_opR A κ p a) (q_opC A κ p a b) → T = q_cpn (n + 1) A1 P → S = q_idn (n + 1) st → L = q_live (n + 1) mk S T lv → Q (some (am_I (nI n))) (hm (xc A1 T S mk L cl pr us (nI (n + 1)) 0 0) Y)) : am_C g mC_operation (d + 4) 0 0 [am_O 0 0, am_I κ, am_I xa, am_I xb, am_I p] (hm (xc A P st mk lv cl pr us (nI n) si wk) Y) Q := by
  refine am_enter (lv := [some (am_O 0 0), some (am_I κ), some (am_I xa), some (am_I xb), some (am_I p), none]) rfl rfl (am_cat1 rfl) (Nat.le_of_ble_eq_true rfl) ?_
  refine am_iload_n (i := 1) dC_operation_0 rfl rfl ?_
  refine am_iconst (v := 3) dC_operation_1 (by decide) ?_
  refine am_icmp_lt (tgt := 27) dC_operation_2 (by decide) (fun c2 => ?_) (fun c2 => ?_)
  · refine am_iconst (v := (-1)) dC_operation_27 (by decide) ?_
    refine am_iret (st := []) rfl rfl dC_operation_28 ?_
    exact kr (by grind)
  · refine am_iload_n (i := 1) dC_operation_5 rfl rfl ?_
    refine am_bipush (v := 9) dC_operation_6 (by decide) ?_
    refine am_icmp_gt (tgt := 27) dC_operation_8 (by decide) (fun c8 => ?_) (fun c8 => ?_)
    · refine am_iconst (v := (-1)) dC_operation_27 (by decide) ?_
      refine am_iret (st := []) rfl rfl dC_operation_28 ?_
      exact kr (by grind)
    · refine am_aload_n (i := 0) dC_operation_11 rfl rfl ?_
      refine am_iload_n (i := 2) dC_operation_12 rfl rfl ?_
      refine am_callV (ac' := 0) (as' := 0) (xs := [_]) dC_operation_13 lkC_67 (by first | rfl | exact sk8 (by omega) | exact sk9 (by omega) | exact sk10 (by omega) | exact sk11 (by omega)) rfl rfl rfl rfl (Nat.le_of_ble_eq_true rfl) rfl rfl (cC_isValue rfl hn (fun a ha ea => ?_) (fun na => ?_))
      · refine am_if_eq_F (tgt := 27) dC_operation_16 (by decide) (by decide) ?_
        refine am_aload_n (i := 0) dC_operation_19 rfl rfl ?_
        refine am_iload_n (i := 3) dC_operation_20 rfl rfl ?_
        refine am_callV (ac' := 0) (as' := 0) (xs := [_]) dC_operation_21 lkC_67 (by first | rfl | exact sk8 (by omega) | exact sk9 (by omega) | exact sk10 (by omega) | exact sk11 (by omega)) rfl rfl rfl rfl (Nat.le_of_ble_eq_true rfl) rfl rfl (cC_isValue rfl hn (fun b hb eb => ?_) (fun nb => ?_))
        · refine am_if_ne_T (tgt := 29) dC_operation_24 (by decide) (by decide) ?_
          refine am_iload_n (i := 1) dC_operation_29 rfl rfl ?_
          refine am_bipush (v := 6) dC_operation_30 (by decide) ?_
          refine am_icmp_eq (tgt := 47) dC_operation_32 (by decide) (fun c32 => ?_) (fun c32 => ?_)
          · refine am_iconst (v := 1) dC_operation_47 (by decide) ?_
            refine am_goto (tgt := 52) dC_operation_48 (by decide) ?_
            refine am_istore (i := 5) dC_operation_52 (by decide) ?_
            refine am_iload (i := 5) dC_operation_54 rfl ?_
            refine am_if_eq_F (tgt := 64) dC_operation_56 (by decide) (by decide) ?_
            refine am_iload_n (i := 3) dC_operation_59 rfl rfl ?_
            refine am_iload_n (i := 2) dC_operation_60 rfl rfl ?_
            refine am_icmp_ne (tgt := 85) dC_operation_61 (by decide) (fun c61 => ?_) (fun c61 => ?_)
            · refine am_iconst (v := (-1)) dC_operation_85 (by decide) ?_
              refine am_iret (st := []) rfl rfl dC_operation_86 ?_
              exact kr (by grind)
            · refine am_iload (i := 4) dC_operation_64 rfl ?_
              refine am_if_lt (tgt := 85) dC_operation_66 (by decide) (fun c66 => ?_) (fun c66 => ?_)
              · refine am_iconst (v := (-1)) dC_operation_85 (by decide) ?_
                refine am_iret (st := []) rfl rfl dC_operation_86 ?_
                exact kr (by grind)
              · refine am_iload (i := 4) dC_operation_69 rfl ?_
                refine am_iload_n (i := 1) dC_operation_71 rfl rfl ?_
                refine am_bipush (v := 9) dC_operation_72 (by decide) ?_
                refine am_icmp_ne_T (tgt := 81) dC_operation_74 (by decide) (by rw [c32]; decide) ?_
                refine am_iconst (v := 0) dC_operation_81 (by decide) ?_
                refine am_icmp_le (tgt := 87) dC_operation_82 (by decide) (fun c82 => ?_) (fun c82 => ?_)
                · refine am_iload_n (i := 1) dC_operation_87 rfl rfl ?_
                  refine am_aload_n (i := 0) dC_operation_88 rfl rfl ?_
                  refine am_getf dC_operation_89 flC_11 (by first | rfl | exact sk8 (by omega) | exact sk9 (by omega) | exact sk10 (by omega) | exact sk11 (by omega)) rfl ?_
                  refine am_iload_n (i := 2) dC_operation_92 rfl rfl ?_
                  refine am_aald dC_operation_93 (by first | rfl | exact sk8 (by omega) | exact sk9 (by omega) | exact sk10 (by omega) | exact sk11 (by omega)) ea (by first | omega | assumption | decide) (by decide) (by decide) rfl rfl ?_
                  refine am_aload_n (i := 0) dC_operation_94 rfl rfl ?_
                  refine am_getf dC_operation_95 flC_11 (by first | rfl | exact sk8 (by omega) | exact sk9 (by omega) | exact sk10 (by omega) | exact sk11 (by omega)) rfl ?_
                  refine am_iload_n (i := 3) dC_operation_98 rfl rfl ?_
                  refine am_aald dC_operation_99 (by first | rfl | exact sk8 (by omega) | exact sk9 (by omega) | exact sk10 (by omega) | exact sk11 (by omega)) eb (by first | omega | assumption | decide) (by decide) (by decide) rfl rfl ?_
                  refine am_callS (ac' := 0) (as' := 0) (xs := [_, _, _]) dC_operation_100 lkC_71 rfl rfl (Nat.le_of_ble_eq_true rfl) rfl rfl (cC_shapesFit (v := a) (u := b) (by omega) (by omega) (fun cf => ?_) (fun cf => ?_))
                  · refine am_if_ne_T (tgt := 109) dC_operation_103 (by decide) (by decide) ?_
                    refine am_aload_n (i := 0) dC_operation_109 rfl rfl ?_
                    refine am_getf dC_operation_110 flC_40 (by first | rfl | exact sk8 (by omega) | exact sk9 (by omega) | exact sk10 (by omega) | exact sk11 (by omega)) rfl ?_
                    refine am_bipush (v := 28) dC_operation_113 (by decide) ?_
                    refine am_icmp_lt (tgt := 121) dC_operation_115 (by decide) (fun c115 => ?_) (fun c115 => ?_)
                    · have hlt : n < 28 := (q_lt28 hn).mp c115
                      refine am_aload_n (i := 0) dC_operation_121 rfl rfl ?_
                      refine am_getf dC_operation_122 flC_11 (by first | rfl | exact sk8 (by omega) | exact sk9 (by omega) | exact sk10 (by omega) | exact sk11 (by omega)) rfl ?_
                      refine am_aload_n (i := 0) dC_operation_125 rfl rfl ?_
                      refine am_getf dC_operation_126 flC_40 (by first | rfl | exact sk8 (by omega) | exact sk9 (by omega) | exact sk10 (by omega) | exact sk11 (by omega)) rfl ?_
                      refine am_aald dC_operation_129 (by first | rfl | exact sk8 (by omega) | exact sk9 (by omega) | exact sk10 (by omega) | exact sk11 (by omega)) rfl (by first | omega | assumption | decide) (by decide) (by decide) rfl rfl ?_
                      refine am_iload_n (i := 1) dC_operation_130 rfl rfl ?_
                      refine am_iload_n (i := 2) dC_operation_131 rfl rfl ?_
                      refine am_iload (i := 5) dC_operation_132 rfl ?_
                      refine am_if_eq_F (tgt := 141) dC_operation_134 (by decide) (by decide) ?_
                      refine am_iconst (v := (-1)) dC_operation_137 (by decide) ?_
                      refine am_goto (tgt := 142) dC_operation_138 (by decide) ?_
                      refine am_iload (i := 4) dC_operation_142 rfl ?_
                      refine am_iconst (v := 0) dC_operation_144 (by decide) ?_
                      refine am_callV (ac' := 0) (as' := 0) (xs := [_, _, _, _, _]) dC_operation_145 lkC_59 (by first | rfl | exact sk8 (by omega) | exact sk9 (by omega) | exact sk10 (by omega) | exact sk11 (by omega)) rfl rfl rfl rfl (Nat.le_of_ble_eq_true rfl) rfl rfl (cO_become8 (v := n) hlt ?_)
                      refine am_aload_n (i := 0) dC_operation_148 rfl rfl ?_
                      refine am_iload_n (i := 1) dC_operation_149 rfl rfl ?_
                      refine am_aload_n (i := 0) dC_operation_150 rfl rfl ?_
                      refine am_getf dC_operation_151 flC_11 (by first | rfl | exact sk8 (by omega) | exact sk9 (by omega) | exact sk10 (by omega) | exact sk11 (by omega)) rfl ?_
                      refine am_iload_n (i := 2) dC_operation_154 rfl rfl ?_
                      refine am_aald dC_operation_155 (by first | rfl | exact sk8 (by omega) | exact sk9 (by omega) | exact sk10 (by omega) | exact sk11 (by omega)) ea (by first | omega | assumption | decide) (by decide) (by decide) rfl rfl ?_
                      refine am_iload (i := 4) dC_operation_156 rfl ?_
                      refine am_callS (ac' := 0) (as' := 0) (xs := [_, _, _]) dC_operation_158 lkC_75 rfl rfl (Nat.le_of_ble_eq_true rfl) rfl rfl (cC_rowsOf (A := q_bec A n κ xa (-1) p 0) (v := a) (by omega) (fun r er0 => ?_))
                      have er : r = q_opR A κ p a := by rw [er0, q_bec_old (by omega), q_bec_old (by omega)]; rfl
                      refine am_iload_n (i := 1) dC_operation_161 rfl rfl ?_
                      refine am_aload_n (i := 0) dC_operation_162 rfl rfl ?_
                      refine am_getf dC_operation_163 flC_11 (by first | rfl | exact sk8 (by omega) | exact sk9 (by omega) | exact sk10 (by omega) | exact sk11 (by omega)) rfl ?_
                      refine am_iload_n (i := 2) dC_operation_166 rfl rfl ?_
                      refine am_aald dC_operation_167 (by first | rfl | exact sk8 (by omega) | exact sk9 (by omega) | exact sk10 (by omega) | exact sk11 (by omega)) ea (by first | omega | assumption | decide) (by decide) (by decide) rfl rfl ?_
                      refine am_aload_n (i := 0) dC_operation_168 rfl rfl ?_
                      refine am_getf dC_operation_169 flC_11 (by first | rfl | exact sk8 (by omega) | exact sk9 (by omega) | exact sk10 (by omega) | exact sk11 (by omega)) rfl ?_
                      refine am_iload_n (i := 3) dC_operation_172 rfl rfl ?_
                      refine am_aald dC_operation_173 (by first | rfl | exact sk8 (by omega) | exact sk9 (by omega) | exact sk10 (by omega) | exact sk11 (by omega)) eb (by first | omega | assumption | decide) (by decide) (by decide) rfl rfl ?_
                      refine am_iload (i := 4) dC_operation_174 rfl ?_
                      refine am_callS (ac' := 0) (as' := 0) (xs := [_, _, _, _]) dC_operation_176 lkC_79 rfl rfl (Nat.le_of_ble_eq_true rfl) rfl rfl (cC_columnsOf (A := q_bec A n κ xa (-1) p 0) (v := a) (u := b) (by omega) (by omega) (fun c ec0 => ?_))
                      have ec : c = q_opC A κ p a b := by rw [ec0, q_bec_old (by omega), q_bec_old (by omega)]; rfl
                      refine am_callV (ac' := 0) (as' := 0) (xs := [_, _]) dC_operation_179 lkC_63 (by first | rfl | exact sk8 (by omega) | exact sk9 (by omega) | exact sk10 (by omega) | exact sk11 (by omega)) rfl rfl rfl rfl (Nat.le_of_ble_eq_true rfl) rfl rfl (cC_addWithShape (A := q_bec A n κ xa (-1) p 0) hlt (q_args_bec hA (Or.inr ⟨a, ha, ea⟩) (Or.inl rfl)) (fun A1 T S L e1 e2 e3 e4 => ?_))
                      refine am_iret (st := []) rfl rfl dC_operation_182 ?_
                      exact ka a b ha hb ea eb ⟨c2, c8, ea ▸ q_val_of ha hn, eb ▸ q_val_of hb hn, by grind, c66, by grind⟩ cf hlt _ _ _ _ (by rw [e1, er, ec]; first | rw [if_pos (by grind)]; rfl | rw [if_neg (by grind)]; rfl) e2 e3 e4
                    · refine am_bipush (v := (-2)) dC_operation_118 (by decide) ?_
                      refine am_iret (st := []) rfl rfl dC_operation_120 ?_
                      exact kf a b ha hb ea eb ⟨c2, c8, ea ▸ q_val_of ha hn, eb ▸ q_val_of hb hn, by grind, c66, by grind⟩ cf (by have := mt (q_lt28 hn).mpr c115; omega)
                  · refine am_if_ne_F (tgt := 109) dC_operation_103 (by decide) (by decide) ?_
                    refine am_bipush (v := (-3)) dC_operation_106 (by decide) ?_
                    refine am_iret (st := []) rfl rfl dC_operation_108 ?_
                    exact ks a b ha hb ea eb ⟨c2, c8, ea ▸ q_val_of ha hn, eb ▸ q_val_of hb hn, by grind, c66, by grind⟩ cf
                · refine am_iconst (v := (-1)) dC_operation_85 (by decide) ?_
                  refine am_iret (st := []) rfl rfl dC_operation_86 ?_
                  exact kr (by grind)
          · refine am_iload_n (i := 1) dC_operation_35 rfl rfl ?_
            refine am_bipush (v := 7) dC_operation_36 (by decide) ?_
            refine am_icmp_eq (tgt := 47) dC_operation_38 (by decide) (fun c38 => ?_) (fun c38 => ?_)
            · refine am_iconst (v := 1) dC_operation_47 (by decide) ?_
              refine am_goto (tgt := 52) dC_operation_48 (by decide) ?_
              refine am_istore (i := 5) dC_operation_52 (by decide) ?_
              refine am_iload (i := 5) dC_operation_54 rfl ?_
              refine am_if_eq_F (tgt := 64) dC_operation_56 (by decide) (by decide) ?_
              refine am_iload_n (i := 3) dC_operation_59 rfl rfl ?_
              refine am_iload_n (i := 2) dC_operation_60 rfl rfl ?_
              refine am_icmp_ne (tgt := 85) dC_operation_61 (by decide) (fun c61 => ?_) (fun c61 => ?_)
              · refine am_iconst (v := (-1)) dC_operation_85 (by decide) ?_
                refine am_iret (st := []) rfl rfl dC_operation_86 ?_
                exact kr (by grind)
              · refine am_iload (i := 4) dC_operation_64 rfl ?_
                refine am_if_lt (tgt := 85) dC_operation_66 (by decide) (fun c66 => ?_) (fun c66 => ?_)
                · refine am_iconst (v := (-1)) dC_operation_85 (by decide) ?_
                  refine am_iret (st := []) rfl rfl dC_operation_86 ?_
                  exact kr (by grind)
                · refine am_iload (i := 4) dC_operation_69 rfl ?_
                  refine am_iload_n (i := 1) dC_operation_71 rfl rfl ?_
                  refine am_bipush (v := 9) dC_operation_72 (by decide) ?_
                  refine am_icmp_ne_T (tgt := 81) dC_operation_74 (by decide) (by rw [c38]; decide) ?_
                  refine am_iconst (v := 0) dC_operation_81 (by decide) ?_
                  refine am_icmp_le (tgt := 87) dC_operation_82 (by decide) (fun c82 => ?_) (fun c82 => ?_)
                  · refine am_iload_n (i := 1) dC_operation_87 rfl rfl ?_
                    refine am_aload_n (i := 0) dC_operation_88 rfl rfl ?_
                    refine am_getf dC_operation_89 flC_11 (by first | rfl | exact sk8 (by omega) | exact sk9 (by omega) | exact sk10 (by omega) | exact sk11 (by omega)) rfl ?_
                    refine am_iload_n (i := 2) dC_operation_92 rfl rfl ?_
                    refine am_aald dC_operation_93 (by first | rfl | exact sk8 (by omega) | exact sk9 (by omega) | exact sk10 (by omega) | exact sk11 (by omega)) ea (by first | omega | assumption | decide) (by decide) (by decide) rfl rfl ?_
                    refine am_aload_n (i := 0) dC_operation_94 rfl rfl ?_
                    refine am_getf dC_operation_95 flC_11 (by first | rfl | exact sk8 (by omega) | exact sk9 (by omega) | exact sk10 (by omega) | exact sk11 (by omega)) rfl ?_
                    refine am_iload_n (i := 3) dC_operation_98 rfl rfl ?_
                    refine am_aald dC_operation_99 (by first | rfl | exact sk8 (by omega) | exact sk9 (by omega) | exact sk10 (by omega) | exact sk11 (by omega)) eb (by first | omega | assumption | decide) (by decide) (by decide) rfl rfl ?_
                    refine am_callS (ac' := 0) (as' := 0) (xs := [_, _, _]) dC_operation_100 lkC_71 rfl rfl (Nat.le_of_ble_eq_true rfl) rfl rfl (cC_shapesFit (v := a) (u := b) (by omega) (by omega) (fun cf => ?_) (fun cf => ?_))
                    · refine am_if_ne_T (tgt := 109) dC_operation_103 (by decide) (by decide) ?_
                      refine am_aload_n (i := 0) dC_operation_109 rfl rfl ?_
                      refine am_getf dC_operation_110 flC_40 (by first | rfl | exact sk8 (by omega) | exact sk9 (by omega) | exact sk10 (by omega) | exact sk11 (by omega)) rfl ?_
                      refine am_bipush (v := 28) dC_operation_113 (by decide) ?_
                      refine am_icmp_lt (tgt := 121) dC_operation_115 (by decide) (fun c115 => ?_) (fun c115 => ?_)
                      · have hlt : n < 28 := (q_lt28 hn).mp c115
                        refine am_aload_n (i := 0) dC_operation_121 rfl rfl ?_
                        refine am_getf dC_operation_122 flC_11 (by first | rfl | exact sk8 (by omega) | exact sk9 (by omega) | exact sk10 (by omega) | exact sk11 (by omega)) rfl ?_
                        refine am_aload_n (i := 0) dC_operation_125 rfl rfl ?_
                        refine am_getf dC_operation_126 flC_40 (by first | rfl | exact sk8 (by omega) | exact sk9 (by omega) | exact sk10 (by omega) | exact sk11 (by omega)) rfl ?_
                        refine am_aald dC_operation_129 (by first | rfl | exact sk8 (by omega) | exact sk9 (by omega) | exact sk10 (by omega) | exact sk11 (by omega)) rfl (by first | omega | assumption | decide) (by decide) (by decide) rfl rfl ?_
                        refine am_iload_n (i := 1) dC_operation_130 rfl rfl ?_
                        refine am_iload_n (i := 2) dC_operation_131 rfl rfl ?_
                        refine am_iload (i := 5) dC_operation_132 rfl ?_
                        refine am_if_eq_F (tgt := 141) dC_operation_134 (by decide) (by decide) ?_
                        refine am_iconst (v := (-1)) dC_operation_137 (by decide) ?_
                        refine am_goto (tgt := 142) dC_operation_138 (by decide) ?_
                        refine am_iload (i := 4) dC_operation_142 rfl ?_
                        refine am_iconst (v := 0) dC_operation_144 (by decide) ?_
                        refine am_callV (ac' := 0) (as' := 0) (xs := [_, _, _, _, _]) dC_operation_145 lkC_59 (by first | rfl | exact sk8 (by omega) | exact sk9 (by omega) | exact sk10 (by omega) | exact sk11 (by omega)) rfl rfl rfl rfl (Nat.le_of_ble_eq_true rfl) rfl rfl (cO_become8 (v := n) hlt ?_)
                        refine am_aload_n (i := 0) dC_operation_148 rfl rfl ?_
                        refine am_iload_n (i := 1) dC_operation_149 rfl rfl ?_
                        refine am_aload_n (i := 0) dC_operation_150 rfl rfl ?_
                        refine am_getf dC_operation_151 flC_11 (by first | rfl | exact sk8 (by omega) | exact sk9 (by omega) | exact sk10 (by omega) | exact sk11 (by omega)) rfl ?_
                        refine am_iload_n (i := 2) dC_operation_154 rfl rfl ?_
                        refine am_aald dC_operation_155 (by first | rfl | exact sk8 (by omega) | exact sk9 (by omega) | exact sk10 (by omega) | exact sk11 (by omega)) ea (by first | omega | assumption | decide) (by decide) (by decide) rfl rfl ?_
                        refine am_iload (i := 4) dC_operation_156 rfl ?_
                        refine am_callS (ac' := 0) (as' := 0) (xs := [_, _, _]) dC_operation_158 lkC_75 rfl rfl (Nat.le_of_ble_eq_true rfl) rfl rfl (cC_rowsOf (A := q_bec A n κ xa (-1) p 0) (v := a) (by omega) (fun r er0 => ?_))
                        have er : r = q_opR A κ p a := by rw [er0, q_bec_old (by omega), q_bec_old (by omega)]; rfl
                        refine am_iload_n (i := 1) dC_operation_161 rfl rfl ?_
                        refine am_aload_n (i := 0) dC_operation_162 rfl rfl ?_
                        refine am_getf dC_operation_163 flC_11 (by first | rfl | exact sk8 (by omega) | exact sk9 (by omega) | exact sk10 (by omega) | exact sk11 (by omega)) rfl ?_
                        refine am_iload_n (i := 2) dC_operation_166 rfl rfl ?_
                        refine am_aald dC_operation_167 (by first | rfl | exact sk8 (by omega) | exact sk9 (by omega) | exact sk10 (by omega) | exact sk11 (by omega)) ea (by first | omega | assumption | decide) (by decide) (by decide) rfl rfl ?_
                        refine am_aload_n (i := 0) dC_operation_168 rfl rfl ?_
                        refine am_getf dC_operation_169 flC_11 (by first | rfl | exact sk8 (by omega) | exact sk9 (by omega) | exact sk10 (by omega) | exact sk11 (by omega)) rfl ?_
                        refine am_iload_n (i := 3) dC_operation_172 rfl rfl ?_
                        refine am_aald dC_operation_173 (by first | rfl | exact sk8 (by omega) | exact sk9 (by omega) | exact sk10 (by omega) | exact sk11 (by omega)) eb (by first | omega | assumption | decide) (by decide) (by decide) rfl rfl ?_
                        refine am_iload (i := 4) dC_operation_174 rfl ?_
                        refine am_callS (ac' := 0) (as' := 0) (xs := [_, _, _, _]) dC_operation_176 lkC_79 rfl rfl (Nat.le_of_ble_eq_true rfl) rfl rfl (cC_columnsOf (A := q_bec A n κ xa (-1) p 0) (v := a) (u := b) (by omega) (by omega) (fun c ec0 => ?_))
                        have ec : c = q_opC A κ p a b := by rw [ec0, q_bec_old (by omega), q_bec_old (by omega)]; rfl
                        refine am_callV (ac' := 0) (as' := 0) (xs := [_, _]) dC_operation_179 lkC_63 (by first | rfl | exact sk8 (by omega) | exact sk9 (by omega) | exact sk10 (by omega) | exact sk11 (by omega)) rfl rfl rfl rfl (Nat.le_of_ble_eq_true rfl) rfl rfl (cC_addWithShape (A := q_bec A n κ xa (-1) p 0) hlt (q_args_bec hA (Or.inr ⟨a, ha, ea⟩) (Or.inl rfl)) (fun A1 T S L e1 e2 e3 e4 => ?_))
                        refine am_iret (st := []) rfl rfl dC_operation_182 ?_
                        exact ka a b ha hb ea eb ⟨c2, c8, ea ▸ q_val_of ha hn, eb ▸ q_val_of hb hn, by grind, c66, by grind⟩ cf hlt _ _ _ _ (by rw [e1, er, ec]; first | rw [if_pos (by grind)]; rfl | rw [if_neg (by grind)]; rfl) e2 e3 e4
                      · refine am_bipush (v := (-2)) dC_operation_118 (by decide) ?_
                        refine am_iret (st := []) rfl rfl dC_operation_120 ?_
                        exact kf a b ha hb ea eb ⟨c2, c8, ea ▸ q_val_of ha hn, eb ▸ q_val_of hb hn, by grind, c66, by grind⟩ cf (by have := mt (q_lt28 hn).mpr c115; omega)
                    · refine am_if_ne_F (tgt := 109) dC_operation_103 (by decide) (by decide) ?_
                      refine am_bipush (v := (-3)) dC_operation_106 (by decide) ?_
                      refine am_iret (st := []) rfl rfl dC_operation_108 ?_
                      exact ks a b ha hb ea eb ⟨c2, c8, ea ▸ q_val_of ha hn, eb ▸ q_val_of hb hn, by grind, c66, by grind⟩ cf
                  · refine am_iconst (v := (-1)) dC_operation_85 (by decide) ?_
                    refine am_iret (st := []) rfl rfl dC_operation_86 ?_
                    exact kr (by grind)
            · refine am_iload_n (i := 1) dC_operation_41 rfl rfl ?_
              refine am_bipush (v := 9) dC_operation_42 (by decide) ?_
              refine am_icmp_ne (tgt := 51) dC_operation_44 (by decide) (fun c44 => ?_) (fun c44 => ?_)
              · refine am_iconst (v := 0) dC_operation_51 (by decide) ?_
                refine am_istore (i := 5) dC_operation_52 (by decide) ?_
                refine am_iload (i := 5) dC_operation_54 rfl ?_
                refine am_if_eq_T (tgt := 64) dC_operation_56 (by decide) (by decide) ?_
                refine am_iload (i := 4) dC_operation_64 rfl ?_
                refine am_if_lt (tgt := 85) dC_operation_66 (by decide) (fun c66 => ?_) (fun c66 => ?_)
                · refine am_iconst (v := (-1)) dC_operation_85 (by decide) ?_
                  refine am_iret (st := []) rfl rfl dC_operation_86 ?_
                  exact kr (by grind)
                · refine am_iload (i := 4) dC_operation_69 rfl ?_
                  refine am_iload_n (i := 1) dC_operation_71 rfl rfl ?_
                  refine am_bipush (v := 9) dC_operation_72 (by decide) ?_
                  refine am_icmp_ne_T (tgt := 81) dC_operation_74 (by decide) c44 ?_
                  refine am_iconst (v := 0) dC_operation_81 (by decide) ?_
                  refine am_icmp_le (tgt := 87) dC_operation_82 (by decide) (fun c82 => ?_) (fun c82 => ?_)
                  · refine am_iload_n (i := 1) dC_operation_87 rfl rfl ?_
                    refine am_aload_n (i := 0) dC_operation_88 rfl rfl ?_
                    refine am_getf dC_operation_89 flC_11 (by first | rfl | exact sk8 (by omega) | exact sk9 (by omega) | exact sk10 (by omega) | exact sk11 (by omega)) rfl ?_
                    refine am_iload_n (i := 2) dC_operation_92 rfl rfl ?_
                    refine am_aald dC_operation_93 (by first | rfl | exact sk8 (by omega) | exact sk9 (by omega) | exact sk10 (by omega) | exact sk11 (by omega)) ea (by first | omega | assumption | decide) (by decide) (by decide) rfl rfl ?_
                    refine am_aload_n (i := 0) dC_operation_94 rfl rfl ?_
                    refine am_getf dC_operation_95 flC_11 (by first | rfl | exact sk8 (by omega) | exact sk9 (by omega) | exact sk10 (by omega) | exact sk11 (by omega)) rfl ?_
                    refine am_iload_n (i := 3) dC_operation_98 rfl rfl ?_
                    refine am_aald dC_operation_99 (by first | rfl | exact sk8 (by omega) | exact sk9 (by omega) | exact sk10 (by omega) | exact sk11 (by omega)) eb (by first | omega | assumption | decide) (by decide) (by decide) rfl rfl ?_
                    refine am_callS (ac' := 0) (as' := 0) (xs := [_, _, _]) dC_operation_100 lkC_71 rfl rfl (Nat.le_of_ble_eq_true rfl) rfl rfl (cC_shapesFit (v := a) (u := b) (by omega) (by omega) (fun cf => ?_) (fun cf => ?_))
                    · refine am_if_ne_T (tgt := 109) dC_operation_103 (by decide) (by decide) ?_
                      refine am_aload_n (i := 0) dC_operation_109 rfl rfl ?_
                      refine am_getf dC_operation_110 flC_40 (by first | rfl | exact sk8 (by omega) | exact sk9 (by omega) | exact sk10 (by omega) | exact sk11 (by omega)) rfl ?_
                      refine am_bipush (v := 28) dC_operation_113 (by decide) ?_
                      refine am_icmp_lt (tgt := 121) dC_operation_115 (by decide) (fun c115 => ?_) (fun c115 => ?_)
                      · have hlt : n < 28 := (q_lt28 hn).mp c115
                        refine am_aload_n (i := 0) dC_operation_121 rfl rfl ?_
                        refine am_getf dC_operation_122 flC_11 (by first | rfl | exact sk8 (by omega) | exact sk9 (by omega) | exact sk10 (by omega) | exact sk11 (by omega)) rfl ?_
                        refine am_aload_n (i := 0) dC_operation_125 rfl rfl ?_
                        refine am_getf dC_operation_126 flC_40 (by first | rfl | exact sk8 (by omega) | exact sk9 (by omega) | exact sk10 (by omega) | exact sk11 (by omega)) rfl ?_
                        refine am_aald dC_operation_129 (by first | rfl | exact sk8 (by omega) | exact sk9 (by omega) | exact sk10 (by omega) | exact sk11 (by omega)) rfl (by first | omega | assumption | decide) (by decide) (by decide) rfl rfl ?_
                        refine am_iload_n (i := 1) dC_operation_130 rfl rfl ?_
                        refine am_iload_n (i := 2) dC_operation_131 rfl rfl ?_
                        refine am_iload (i := 5) dC_operation_132 rfl ?_
                        refine am_if_eq_T (tgt := 141) dC_operation_134 (by decide) (by decide) ?_
                        refine am_iload_n (i := 3) dC_operation_141 rfl rfl ?_
                        refine am_iload (i := 4) dC_operation_142 rfl ?_
                        refine am_iconst (v := 0) dC_operation_144 (by decide) ?_
                        refine am_callV (ac' := 0) (as' := 0) (xs := [_, _, _, _, _]) dC_operation_145 lkC_59 (by first | rfl | exact sk8 (by omega) | exact sk9 (by omega) | exact sk10 (by omega) | exact sk11 (by omega)) rfl rfl rfl rfl (Nat.le_of_ble_eq_true rfl) rfl rfl (cO_become8 (v := n) hlt ?_)
                        refine am_aload_n (i := 0) dC_operation_148 rfl rfl ?_
                        refine am_iload_n (i := 1) dC_operation_149 rfl rfl ?_
                        refine am_aload_n (i := 0) dC_operation_150 rfl rfl ?_
                        refine am_getf dC_operation_151 flC_11 (by first | rfl | exact sk8 (by omega) | exact sk9 (by omega) | exact sk10 (by omega) | exact sk11 (by omega)) rfl ?_
                        refine am_iload_n (i := 2) dC_operation_154 rfl rfl ?_
                        refine am_aald dC_operation_155 (by first | rfl | exact sk8 (by omega) | exact sk9 (by omega) | exact sk10 (by omega) | exact sk11 (by omega)) ea (by first | omega | assumption | decide) (by decide) (by decide) rfl rfl ?_
                        refine am_iload (i := 4) dC_operation_156 rfl ?_
                        refine am_callS (ac' := 0) (as' := 0) (xs := [_, _, _]) dC_operation_158 lkC_75 rfl rfl (Nat.le_of_ble_eq_true rfl) rfl rfl (cC_rowsOf (A := q_bec A n κ xa (xb) p 0) (v := a) (by omega) (fun r er0 => ?_))
                        have er : r = q_opR A κ p a := by rw [er0, q_bec_old (by omega), q_bec_old (by omega)]; rfl
                        refine am_iload_n (i := 1) dC_operation_161 rfl rfl ?_
                        refine am_aload_n (i := 0) dC_operation_162 rfl rfl ?_
                        refine am_getf dC_operation_163 flC_11 (by first | rfl | exact sk8 (by omega) | exact sk9 (by omega) | exact sk10 (by omega) | exact sk11 (by omega)) rfl ?_
                        refine am_iload_n (i := 2) dC_operation_166 rfl rfl ?_
                        refine am_aald dC_operation_167 (by first | rfl | exact sk8 (by omega) | exact sk9 (by omega) | exact sk10 (by omega) | exact sk11 (by omega)) ea (by first | omega | assumption | decide) (by decide) (by decide) rfl rfl ?_
                        refine am_aload_n (i := 0) dC_operation_168 rfl rfl ?_
                        refine am_getf dC_operation_169 flC_11 (by first | rfl | exact sk8 (by omega) | exact sk9 (by omega) | exact sk10 (by omega) | exact sk11 (by omega)) rfl ?_
                        refine am_iload_n (i := 3) dC_operation_172 rfl rfl ?_
                        refine am_aald dC_operation_173 (by first | rfl | exact sk8 (by omega) | exact sk9 (by omega) | exact sk10 (by omega) | exact sk11 (by omega)) eb (by first | omega | assumption | decide) (by decide) (by decide) rfl rfl ?_
                        refine am_iload (i := 4) dC_operation_174 rfl ?_
                        refine am_callS (ac' := 0) (as' := 0) (xs := [_, _, _, _]) dC_operation_176 lkC_79 rfl rfl (Nat.le_of_ble_eq_true rfl) rfl rfl (cC_columnsOf (A := q_bec A n κ xa (xb) p 0) (v := a) (u := b) (by omega) (by omega) (fun c ec0 => ?_))
                        have ec : c = q_opC A κ p a b := by rw [ec0, q_bec_old (by omega), q_bec_old (by omega)]; rfl
                        refine am_callV (ac' := 0) (as' := 0) (xs := [_, _]) dC_operation_179 lkC_63 (by first | rfl | exact sk8 (by omega) | exact sk9 (by omega) | exact sk10 (by omega) | exact sk11 (by omega)) rfl rfl rfl rfl (Nat.le_of_ble_eq_true rfl) rfl rfl (cC_addWithShape (A := q_bec A n κ xa (xb) p 0) hlt (q_args_bec hA (Or.inr ⟨a, ha, ea⟩) (Or.inr ⟨b, hb, eb⟩)) (fun A1 T S L e1 e2 e3 e4 => ?_))
                        refine am_iret (st := []) rfl rfl dC_operation_182 ?_
                        exact ka a b ha hb ea eb ⟨c2, c8, ea ▸ q_val_of ha hn, eb ▸ q_val_of hb hn, by grind, c66, by grind⟩ cf hlt _ _ _ _ (by rw [e1, er, ec]; first | rw [if_pos (by grind)]; rfl | rw [if_neg (by grind)]; rfl) e2 e3 e4
                      · refine am_bipush (v := (-2)) dC_operation_118 (by decide) ?_
                        refine am_iret (st := []) rfl rfl dC_operation_120 ?_
                        exact kf a b ha hb ea eb ⟨c2, c8, ea ▸ q_val_of ha hn, eb ▸ q_val_of hb hn, by grind, c66, by grind⟩ cf (by have := mt (q_lt28 hn).mpr c115; omega)
                    · refine am_if_ne_F (tgt := 109) dC_operation_103 (by decide) (by decide) ?_
                      refine am_bipush (v := (-3)) dC_operation_106 (by decide) ?_
                      refine am_iret (st := []) rfl rfl dC_operation_108 ?_
                      exact ks a b ha hb ea eb ⟨c2, c8, ea ▸ q_val_of ha hn, eb ▸ q_val_of hb hn, by grind, c66, by grind⟩ cf
                  · refine am_iconst (v := (-1)) dC_operation_85 (by decide) ?_
                    refine am_iret (st := []) rfl rfl dC_operation_86 ?_
                    exact kr (by grind)
              · refine am_iconst (v := 1) dC_operation_47 (by decide) ?_
                refine am_goto (tgt := 52) dC_operation_48 (by decide) ?_
                refine am_istore (i := 5) dC_operation_52 (by decide) ?_
                refine am_iload (i := 5) dC_operation_54 rfl ?_
                refine am_if_eq_F (tgt := 64) dC_operation_56 (by decide) (by decide) ?_
                refine am_iload_n (i := 3) dC_operation_59 rfl rfl ?_
                refine am_iload_n (i := 2) dC_operation_60 rfl rfl ?_
                refine am_icmp_ne (tgt := 85) dC_operation_61 (by decide) (fun c61 => ?_) (fun c61 => ?_)
                · refine am_iconst (v := (-1)) dC_operation_85 (by decide) ?_
                  refine am_iret (st := []) rfl rfl dC_operation_86 ?_
                  exact kr (by grind)
                · refine am_iload (i := 4) dC_operation_64 rfl ?_
                  refine am_if_lt (tgt := 85) dC_operation_66 (by decide) (fun c66 => ?_) (fun c66 => ?_)
                  · refine am_iconst (v := (-1)) dC_operation_85 (by decide) ?_
                    refine am_iret (st := []) rfl rfl dC_operation_86 ?_
                    exact kr (by grind)
                  · refine am_iload (i := 4) dC_operation_69 rfl ?_
                    refine am_iload_n (i := 1) dC_operation_71 rfl rfl ?_
                    refine am_bipush (v := 9) dC_operation_72 (by decide) ?_
                    refine am_icmp_ne_F (tgt := 81) dC_operation_74 (by decide) c44 ?_
                    refine am_iconst (v := 1) dC_operation_77 (by decide) ?_
                    refine am_goto (tgt := 82) dC_operation_78 (by decide) ?_
                    refine am_icmp_le (tgt := 87) dC_operation_82 (by decide) (fun c82 => ?_) (fun c82 => ?_)
                    · refine am_iload_n (i := 1) dC_operation_87 rfl rfl ?_
                      refine am_aload_n (i := 0) dC_operation_88 rfl rfl ?_
                      refine am_getf dC_operation_89 flC_11 (by first | rfl | exact sk8 (by omega) | exact sk9 (by omega) | exact sk10 (by omega) | exact sk11 (by omega)) rfl ?_
                      refine am_iload_n (i := 2) dC_operation_92 rfl rfl ?_
                      refine am_aald dC_operation_93 (by first | rfl | exact sk8 (by omega) | exact sk9 (by omega) | exact sk10 (by omega) | exact sk11 (by omega)) ea (by first | omega | assumption | decide) (by decide) (by decide) rfl rfl ?_
                      refine am_aload_n (i := 0) dC_operation_94 rfl rfl ?_
                      refine am_getf dC_operation_95 flC_11 (by first | rfl | exact sk8 (by omega) | exact sk9 (by omega) | exact sk10 (by omega) | exact sk11 (by omega)) rfl ?_
                      refine am_iload_n (i := 3) dC_operation_98 rfl rfl ?_
                      refine am_aald dC_operation_99 (by first | rfl | exact sk8 (by omega) | exact sk9 (by omega) | exact sk10 (by omega) | exact sk11 (by omega)) eb (by first | omega | assumption | decide) (by decide) (by decide) rfl rfl ?_
                      refine am_callS (ac' := 0) (as' := 0) (xs := [_, _, _]) dC_operation_100 lkC_71 rfl rfl (Nat.le_of_ble_eq_true rfl) rfl rfl (cC_shapesFit (v := a) (u := b) (by omega) (by omega) (fun cf => ?_) (fun cf => ?_))
                      · refine am_if_ne_T (tgt := 109) dC_operation_103 (by decide) (by decide) ?_
                        refine am_aload_n (i := 0) dC_operation_109 rfl rfl ?_
                        refine am_getf dC_operation_110 flC_40 (by first | rfl | exact sk8 (by omega) | exact sk9 (by omega) | exact sk10 (by omega) | exact sk11 (by omega)) rfl ?_
                        refine am_bipush (v := 28) dC_operation_113 (by decide) ?_
                        refine am_icmp_lt (tgt := 121) dC_operation_115 (by decide) (fun c115 => ?_) (fun c115 => ?_)
                        · have hlt : n < 28 := (q_lt28 hn).mp c115
                          refine am_aload_n (i := 0) dC_operation_121 rfl rfl ?_
                          refine am_getf dC_operation_122 flC_11 (by first | rfl | exact sk8 (by omega) | exact sk9 (by omega) | exact sk10 (by omega) | exact sk11 (by omega)) rfl ?_
                          refine am_aload_n (i := 0) dC_operation_125 rfl rfl ?_
                          refine am_getf dC_operation_126 flC_40 (by first | rfl | exact sk8 (by omega) | exact sk9 (by omega) | exact sk10 (by omega) | exact sk11 (by omega)) rfl ?_
                          refine am_aald dC_operation_129 (by first | rfl | exact sk8 (by omega) | exact sk9 (by omega) | exact sk10 (by omega) | exact sk11 (by omega)) rfl (by first | omega | assumption | decide) (by decide) (by decide) rfl rfl ?_
                          refine am_iload_n (i := 1) dC_operation_130 rfl rfl ?_
                          refine am_iload_n (i := 2) dC_operation_131 rfl rfl ?_
                          refine am_iload (i := 5) dC_operation_132 rfl ?_
                          refine am_if_eq_F (tgt := 141) dC_operation_134 (by decide) (by decide) ?_
                          refine am_iconst (v := (-1)) dC_operation_137 (by decide) ?_
                          refine am_goto (tgt := 142) dC_operation_138 (by decide) ?_
                          refine am_iload (i := 4) dC_operation_142 rfl ?_
                          refine am_iconst (v := 0) dC_operation_144 (by decide) ?_
                          refine am_callV (ac' := 0) (as' := 0) (xs := [_, _, _, _, _]) dC_operation_145 lkC_59 (by first | rfl | exact sk8 (by omega) | exact sk9 (by omega) | exact sk10 (by omega) | exact sk11 (by omega)) rfl rfl rfl rfl (Nat.le_of_ble_eq_true rfl) rfl rfl (cO_become8 (v := n) hlt ?_)
                          refine am_aload_n (i := 0) dC_operation_148 rfl rfl ?_
                          refine am_iload_n (i := 1) dC_operation_149 rfl rfl ?_
                          refine am_aload_n (i := 0) dC_operation_150 rfl rfl ?_
                          refine am_getf dC_operation_151 flC_11 (by first | rfl | exact sk8 (by omega) | exact sk9 (by omega) | exact sk10 (by omega) | exact sk11 (by omega)) rfl ?_
                          refine am_iload_n (i := 2) dC_operation_154 rfl rfl ?_
                          refine am_aald dC_operation_155 (by first | rfl | exact sk8 (by omega) | exact sk9 (by omega) | exact sk10 (by omega) | exact sk11 (by omega)) ea (by first | omega | assumption | decide) (by decide) (by decide) rfl rfl ?_
                          refine am_iload (i := 4) dC_operation_156 rfl ?_
                          refine am_callS (ac' := 0) (as' := 0) (xs := [_, _, _]) dC_operation_158 lkC_75 rfl rfl (Nat.le_of_ble_eq_true rfl) rfl rfl (cC_rowsOf (A := q_bec A n κ xa (-1) p 0) (v := a) (by omega) (fun r er0 => ?_))
                          have er : r = q_opR A κ p a := by rw [er0, q_bec_old (by omega), q_bec_old (by omega)]; rfl
                          refine am_iload_n (i := 1) dC_operation_161 rfl rfl ?_
                          refine am_aload_n (i := 0) dC_operation_162 rfl rfl ?_
                          refine am_getf dC_operation_163 flC_11 (by first | rfl | exact sk8 (by omega) | exact sk9 (by omega) | exact sk10 (by omega) | exact sk11 (by omega)) rfl ?_
                          refine am_iload_n (i := 2) dC_operation_166 rfl rfl ?_
                          refine am_aald dC_operation_167 (by first | rfl | exact sk8 (by omega) | exact sk9 (by omega) | exact sk10 (by omega) | exact sk11 (by omega)) ea (by first | omega | assumption | decide) (by decide) (by decide) rfl rfl ?_
                          refine am_aload_n (i := 0) dC_operation_168 rfl rfl ?_
                          refine am_getf dC_operation_169 flC_11 (by first | rfl | exact sk8 (by omega) | exact sk9 (by omega) | exact sk10 (by omega) | exact sk11 (by omega)) rfl ?_
                          refine am_iload_n (i := 3) dC_operation_172 rfl rfl ?_
                          refine am_aald dC_operation_173 (by first | rfl | exact sk8 (by omega) | exact sk9 (by omega) | exact sk10 (by omega) | exact sk11 (by omega)) eb (by first | omega | assumption | decide) (by decide) (by decide) rfl rfl ?_
                          refine am_iload (i := 4) dC_operation_174 rfl ?_
                          refine am_callS (ac' := 0) (as' := 0) (xs := [_, _, _, _]) dC_operation_176 lkC_79 rfl rfl (Nat.le_of_ble_eq_true rfl) rfl rfl (cC_columnsOf (A := q_bec A n κ xa (-1) p 0) (v := a) (u := b) (by omega) (by omega) (fun c ec0 => ?_))
                          have ec : c = q_opC A κ p a b := by rw [ec0, q_bec_old (by omega), q_bec_old (by omega)]; rfl
                          refine am_callV (ac' := 0) (as' := 0) (xs := [_, _]) dC_operation_179 lkC_63 (by first | rfl | exact sk8 (by omega) | exact sk9 (by omega) | exact sk10 (by omega) | exact sk11 (by omega)) rfl rfl rfl rfl (Nat.le_of_ble_eq_true rfl) rfl rfl (cC_addWithShape (A := q_bec A n κ xa (-1) p 0) hlt (q_args_bec hA (Or.inr ⟨a, ha, ea⟩) (Or.inl rfl)) (fun A1 T S L e1 e2 e3 e4 => ?_))
                          refine am_iret (st := []) rfl rfl dC_operation_182 ?_
                          exact ka a b ha hb ea eb ⟨c2, c8, ea ▸ q_val_of ha hn, eb ▸ q_val_of hb hn, by grind, c66, by grind⟩ cf hlt _ _ _ _ (by rw [e1, er, ec]; first | rw [if_pos (by grind)]; rfl | rw [if_neg (by grind)]; rfl) e2 e3 e4
                        · refine am_bipush (v := (-2)) dC_operation_118 (by decide) ?_
                          refine am_iret (st := []) rfl rfl dC_operation_120 ?_
                          exact kf a b ha hb ea eb ⟨c2, c8, ea ▸ q_val_of ha hn, eb ▸ q_val_of hb hn, by grind, c66, by grind⟩ cf (by have := mt (q_lt28 hn).mpr c115; omega)
                      · refine am_if_ne_F (tgt := 109) dC_operation_103 (by decide) (by decide) ?_
                        refine am_bipush (v := (-3)) dC_operation_106 (by decide) ?_
                        refine am_iret (st := []) rfl rfl dC_operation_108 ?_
                        exact ks a b ha hb ea eb ⟨c2, c8, ea ▸ q_val_of ha hn, eb ▸ q_val_of hb hn, by grind, c66, by grind⟩ cf
                    · refine am_iconst (v := (-1)) dC_operation_85 (by decide) ?_
                      refine am_iret (st := []) rfl rfl dC_operation_86 ?_
                      exact kr (by grind)
        · refine am_if_ne_F (tgt := 29) dC_operation_24 (by decide) (by decide) ?_
          refine am_iconst (v := (-1)) dC_operation_27 (by decide) ?_
          refine am_iret (st := []) rfl rfl dC_operation_28 ?_
          exact kr (by grind)
      · refine am_if_eq_T (tgt := 27) dC_operation_16 (by decide) (by decide) ?_
        refine am_iconst (v := (-1)) dC_operation_27 (by decide) ?_
        refine am_iret (st := []) rfl rfl dC_operation_28 ?_
        exact kr (by grind)
set_option maxRecDepth 100000 in
set_option maxHeartbeats 4000000 in
theorem cC_mark {g : am_G} {d : Nat} {Q : Option am_V → am_H → Prop} {Y : Nat → Nat → Nat → am_V} {A P : Nat → Nat → Int32} {st mk lv : Nat → Int32} {cl pr : Nat → Nat → Int32} {us : Nat → Int32} {si wk : Int32} {n : Nat} {x o : Int32} (ho : o = 0 ∨ o = 1) (hn : n ≤ 28) (hA : ∀ m, m < n → q_arg (A m 3) m ∧ q_arg (A m 4) m) (kr : ¬ q_val x n → Q (some (am_I (-1))) (hm (xc A P st mk lv cl pr us (nI n) si wk) Y)) (k : ∀ v T S L, v < n → x = nI v → T = q_cpn n A P → S = q_idn n st → L = q_live n (upd mk v o) S T lv → Q (some (am_I 0)) (hm (xc A T S (upd mk v o) L cl pr us (nI n) 0 0) Y)) : am_C g mC_mark (d + 3) 0 0 [am_O 0 0, am_I x, am_I o] (hm (xc A P st mk lv cl pr us (nI n) si wk) Y) Q := by
  refine am_enter (lv := [some (am_O 0 0), some (am_I x), some (am_I o)]) rfl rfl (am_cat1 rfl) (Nat.le_of_ble_eq_true rfl) ?_
  refine am_aload_n (i := 0) dC_mark_0 rfl rfl ?_
  refine am_iload_n (i := 1) dC_mark_1 rfl rfl ?_
  refine am_callV (ac' := 0) (as' := 0) (xs := [_]) dC_mark_2 lkC_67 (by first | rfl | exact sk8 (by omega) | exact sk9 (by omega) | exact sk10 (by omega) | exact sk11 (by omega)) rfl rfl rfl rfl (Nat.le_of_ble_eq_true rfl) rfl rfl (cC_isValue rfl hn (fun v hv ev => ?_) (fun nv => ?_))
  · refine am_if_ne_T (tgt := 10) dC_mark_5 (by decide) (by decide) ?_
    refine am_aload_n (i := 0) dC_mark_10 rfl rfl ?_
    refine am_getf dC_mark_11 flC_22 (by first | rfl | exact sk8 (by omega) | exact sk9 (by omega) | exact sk10 (by omega) | exact sk11 (by omega)) rfl ?_
    refine am_iload_n (i := 1) dC_mark_14 rfl rfl ?_
    refine am_iload_n (i := 2) dC_mark_15 rfl rfl ?_
    refine am_zast' dC_mark_16 (by first | rfl | exact sk8 (by omega) | exact sk9 (by omega) | exact sk10 (by omega) | exact sk11 (by omega)) ev (by first | omega | assumption | decide) (by decide) (by decide) (by rcases ho with q | q <;> rw [q] <;> rfl) (by first | exact wx_st | exact wx_mk | exact wx_lv | exact wx_us | exact wx_A | exact wx_P | exact wx_cl | exact wx_pr | exact wx_va | exact wx_si | exact wx_wk) ?_
    refine am_aload_n (i := 0) dC_mark_17 rfl rfl ?_
    refine am_callV (ac' := 0) (as' := 0) (xs := []) dC_mark_18 lkC_95 (by first | rfl | exact sk8 (by omega) | exact sk9 (by omega) | exact sk10 (by omega) | exact sk11 (by omega)) rfl rfl rfl rfl (Nat.le_of_ble_eq_true rfl) rfl rfl (cC_undo hn hA (fun T S L eT eS eL => ?_))
    refine am_iconst (v := 0) dC_mark_21 (by decide) ?_
    refine am_iret (st := []) rfl rfl dC_mark_22 ?_
    exact k v _ _ _ hv ev eT eS eL
  · refine am_if_ne_F (tgt := 10) dC_mark_5 (by decide) (by decide) ?_
    refine am_iconst (v := (-1)) dC_mark_8 (by decide) ?_
    refine am_iret (st := []) rfl rfl dC_mark_9 ?_
    exact kr (by grind)
theorem q_ix4 {x : Int32} (h0 : ¬ x < 0) (h1 : ¬ 4 ≤ x) : ∃ j, j < 4 ∧ x = nI j := by
  rcases pk_ix x (n := 4) (by omega) with q | q | ⟨j, hj, e⟩
  · exact absurd q h0
  · exact absurd q h1
  · exact ⟨j, hj, e⟩
theorem nI_ij (i c j : Nat) : nI i * nI c + nI j = nI (i * c + j) := by rw [pk_mul, nI_add]
set_option maxRecDepth 100000 in
set_option maxHeartbeats 4000000 in
theorem cC_set {g : am_G} {d : Nat} {Q : Option am_V → am_H → Prop} {Y : Nat → Nat → Nat → am_V} {A P : Nat → Nat → Int32} {st mk lv : Nat → Int32} {cl pr : Nat → Nat → Int32} {us : Nat → Int32} {si wk : Int32} {n : Nat} {p i j x : Int32} (kr : ¬ (¬ p < 0 ∧ ¬ 4 ≤ p ∧ q_plOk i j) → Q (some (am_I (-1))) (hm (xc A P st mk lv cl pr us (nI n) si wk) Y)) (k : ∀ p0 i0 j0, p0 < 4 → i0 < 4 → j0 < 4 → p = nI p0 → i = nI i0 → j = nI j0 → Q (some (am_I 0)) (hm (xc A P st mk lv cl (up2 pr p0 (i0 * 4 + j0) x) us (nI n) si wk) Y)) : am_C g mC_set (d + 1) 0 0 [am_O 0 0, am_I p, am_I i, am_I j, am_I x] (hm (xc A P st mk lv cl pr us (nI n) si wk) Y) Q := by
  refine am_enter (lv := [some (am_O 0 0), some (am_I p), some (am_I i), some (am_I j), some (am_I x)]) rfl rfl (am_cat1 rfl) (Nat.le_of_ble_eq_true rfl) ?_
  refine am_iload_n (i := 1) dC_set_0 rfl rfl ?_
  refine am_if_lt (tgt := 17) dC_set_1 (by decide) (fun c1 => ?_) (fun c1 => ?_)
  · refine am_iconst (v := (-1)) dC_set_17 (by decide) ?_
    refine am_iret (st := []) rfl rfl dC_set_18 ?_
    exact kr (by grind)
  · refine am_iload_n (i := 1) dC_set_4 rfl rfl ?_
    refine am_iconst (v := 4) dC_set_5 (by decide) ?_
    refine am_icmp_ge (tgt := 17) dC_set_6 (by decide) (fun c6 => ?_) (fun c6 => ?_)
    · refine am_iconst (v := (-1)) dC_set_17 (by decide) ?_
      refine am_iret (st := []) rfl rfl dC_set_18 ?_
      exact kr (by grind)
    · refine am_iload_n (i := 2) dC_set_9 rfl rfl ?_
      refine am_iload_n (i := 3) dC_set_10 rfl rfl ?_
      refine am_callS (ac' := 0) (as' := 0) (xs := [_, _]) dC_set_11 lkC_92 rfl rfl (Nat.le_of_ble_eq_true rfl) rfl rfl (cC_isPlace (fun cp => ?_) (fun cp => ?_))
      · refine am_if_ne_T (tgt := 19) dC_set_14 (by decide) (by decide) ?_
        obtain ⟨p0, hp0, ep0⟩ := q_ix4 c1 c6
        obtain ⟨i0, hi0, ei0⟩ := q_ix4 cp.1 cp.2.1
        obtain ⟨j0, hj0, ej0⟩ := q_ix4 cp.2.2.1 cp.2.2.2
        refine am_aload_n (i := 0) dC_set_19 rfl rfl ?_
        refine am_getf dC_set_20 flC_34 (by first | rfl | exact sk8 (by omega) | exact sk9 (by omega) | exact sk10 (by omega) | exact sk11 (by omega)) rfl ?_
        refine am_iload_n (i := 1) dC_set_23 rfl rfl ?_
        refine am_aald dC_set_24 (by first | rfl | exact sk8 (by omega) | exact sk9 (by omega) | exact sk10 (by omega) | exact sk11 (by omega)) ep0 (by first | omega | assumption | decide) (by decide) (by decide) rfl rfl ?_
        refine am_iload_n (i := 2) dC_set_25 rfl rfl ?_
        refine am_iconst (v := 4) dC_set_26 (by decide) ?_
        refine am_imul dC_set_27 ?_
        refine am_iload_n (i := 3) dC_set_28 rfl rfl ?_
        refine am_iadd dC_set_29 ?_
        refine am_iload (i := 4) dC_set_30 rfl ?_
        refine am_iast' dC_set_32 (by first | rfl | exact sk8 (by omega) | exact sk9 (by omega) | exact sk10 (by omega) | exact sk11 (by omega)) (show i * 4 + j = nI (i0 * 4 + j0) by rw [ei0, ej0]; exact nI_ij i0 4 j0) (by first | omega | assumption | decide) (by decide) (by decide) (by first | exact wx_st | exact wx_mk | exact wx_lv | exact wx_us | exact wx_A | exact wx_P | exact wx_cl | exact wx_pr | exact wx_va | exact wx_si | exact wx_wk) ?_
        refine am_iconst (v := 0) dC_set_33 (by decide) ?_
        refine am_iret (st := []) rfl rfl dC_set_34 ?_
        exact k p0 i0 j0 hp0 hi0 hj0 ep0 ei0 ej0
      · refine am_if_ne_F (tgt := 19) dC_set_14 (by decide) (by decide) ?_
        refine am_iconst (v := (-1)) dC_set_17 (by decide) ?_
        refine am_iret (st := []) rfl rfl dC_set_18 ?_
        exact kr (by grind)
set_option maxRecDepth 100000 in
set_option maxHeartbeats 4000000 in
theorem cC_standIn {g : am_G} {d : Nat} {Q : Option am_V → am_H → Prop} {Y : Nat → Nat → Nat → am_V} {A P : Nat → Nat → Int32} {st mk lv : Nat → Int32} {cl pr : Nat → Nat → Int32} {us : Nat → Int32} {si wk : Int32} {n : Nat} {x : Int32} (hn : n ≤ 28) (kr : ¬ q_val x n → Q (some (am_I (-1))) (hm (xc A P st mk lv cl pr us (nI n) si wk) Y)) (k : ∀ v, v < n → x = nI v → Q (some (am_I (st v))) (hm (xc A P st mk lv cl pr us (nI n) si wk) Y)) : am_C g mC_standIn (d + 1) 0 0 [am_O 0 0, am_I x] (hm (xc A P st mk lv cl pr us (nI n) si wk) Y) Q := by
  refine am_enter (lv := [some (am_O 0 0), some (am_I x)]) rfl rfl (am_cat1 rfl) (Nat.le_of_ble_eq_true rfl) ?_
  refine am_aload_n (i := 0) dC_standIn_0 rfl rfl ?_
  refine am_iload_n (i := 1) dC_standIn_1 rfl rfl ?_
  refine am_callV (ac' := 0) (as' := 0) (xs := [_]) dC_standIn_2 lkC_67 (by first | rfl | exact sk8 (by omega) | exact sk9 (by omega) | exact sk10 (by omega) | exact sk11 (by omega)) rfl rfl rfl rfl (Nat.le_of_ble_eq_true rfl) rfl rfl (cC_isValue rfl hn (fun v hv ev => ?_) (fun nv => ?_))
  · refine am_if_eq_F (tgt := 17) dC_standIn_5 (by decide) (by decide) ?_
    refine am_aload_n (i := 0) dC_standIn_8 rfl rfl ?_
    refine am_getf dC_standIn_9 flC_18 (by first | rfl | exact sk8 (by omega) | exact sk9 (by omega) | exact sk10 (by omega) | exact sk11 (by omega)) rfl ?_
    refine am_iload_n (i := 1) dC_standIn_12 rfl rfl ?_
    refine am_iald dC_standIn_13 (by first | rfl | exact sk8 (by omega) | exact sk9 (by omega) | exact sk10 (by omega) | exact sk11 (by omega)) ev (by first | omega | assumption | decide) (by decide) (by decide) rfl ?_
    refine am_goto (tgt := 18) dC_standIn_14 (by decide) ?_
    refine am_iret (st := []) rfl rfl dC_standIn_18 ?_
    exact k v hv ev
  · refine am_if_eq_T (tgt := 17) dC_standIn_5 (by decide) (by decide) ?_
    refine am_iconst (v := (-1)) dC_standIn_17 (by decide) ?_
    refine am_iret (st := []) rfl rfl dC_standIn_18 ?_
    exact kr (by grind)
