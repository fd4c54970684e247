theorem k2_of {k : Int32} (j : Int32) (h : k = j) (hj : (2 : Int32) < j) : 2 < k := h ▸ hj
def q_neut (P : Nat → Nat → Int32) (v : Nat) : Int32 := if q_res (P v 0) then (if q_shp P v (ix (P v 3)) then P v 3 else -1) else if ¬ (P v 0 = 3 ∨ P v 0 = 4) then -1 else if q_spl P (P v 3) (if P v 0 = 3 then 0 else 1) then P v 4 else if q_spl P (P v 4) (if P v 0 = 3 then 0 else 1) then P v 3 else -1
def q_twi (P : Nat → Nat → Int32) (v : Nat) : Int32 := if q_tw (P v 0) then (if P (ix (P v 3)) 0 = P v 0 then P (ix (P v 3)) 3 else -1) else -1
def q_r3 (st : Nat → Int32) (P : Nat → Nat → Int32) (v : Nat) : Int32 := if P v 3 = -1 then -1 else st (ix (P v 3))
def q_r4 (st : Nat → Int32) (P : Nat → Nat → Int32) (v : Nat) : Int32 := if P v 4 = -1 then -1 else st (ix (P v 4))
abbrev q_sw (st : Nat → Int32) (P : Nat → Nat → Int32) (v : Nat) : Prop := (P v 0 = 3 ∨ P v 0 = 4 ∨ P v 0 = 5) ∧ ¬ q_r3 st P v ≤ q_r4 st P v
def q_rep (st : Nat → Int32) (P : Nat → Nat → Int32) (v : Nat) : Nat → Nat → Int32 := up2 (up2 P v 3 (if q_sw st P v then q_r4 st P v else q_r3 st P v)) v 4 (if q_sw st P v then q_r3 st P v else q_r4 st P v)
theorem up2_self (P : Nat → Nat → Int32) (v k : Nat) : up2 P v k (P v k) = P := by
  funext i j
  by_cases h : i = v ∧ j = k
  · obtain ⟨rfl, rfl⟩ := h
    exact up2_eq _ _ _ _
  · exact up2_ne h
theorem up2_up2 (P : Nat → Nat → Int32) (v k : Nat) (x y : Int32) : up2 (up2 P v k x) v k y = up2 P v k y := by
  funext i j
  by_cases h : i = v ∧ j = k
  · obtain ⟨rfl, rfl⟩ := h
    rw [up2_eq, up2_eq]
  · rw [up2_ne h, up2_ne h, up2_ne h]
theorem up2_com (P : Nat → Nat → Int32) (v : Nat) {k j : Nat} (x y : Int32) (h : k ≠ j) : up2 (up2 P v k x) v j y = up2 (up2 P v j y) v k x := by
  funext i m
  unfold up2
  grind
set_option maxRecDepth 100000 in
set_option maxHeartbeats 4000000 in
theorem cC_neutralOther {g : am_G} {d : Nat} {Q : Option am_V → am_H → Prop} {Y : Nat → Nat → Nat → am_V} {A P : Nat → Nat → Int32} {st mk lv : Nat → Int32} {cl pr : Nat → Nat → Int32} {us : Nat → Int32} {va si wk : Int32} {v : Nat} (hv : v < 28) (h3 : q_arg (P v 3) v) (h4 : q_arg (P v 4) v) (hq3 : 2 < P v 0 → ¬ P v 3 = -1) (hq4 : (P v 0 = 3 ∨ P v 0 = 4 ∨ P v 0 = 5 ∨ P v 0 = 8) → ¬ P v 4 = -1) (k : ∀ r, r = q_neut P v → Q (some (am_I r)) (hm (xc A P st mk lv cl pr us va si wk) Y)) : am_C g mC_neutralOther (d + 2) 0 0 [am_O 0 0, am_O 9 v] (hm (xc A P st mk lv cl pr us va si wk) Y) Q := by
  refine am_enter (lv := [some (am_O 0 0), some (am_O 9 v), none]) rfl rfl (am_cat1 rfl) (Nat.le_of_ble_eq_true rfl) ?_
  refine am_aload_n (i := 1) dC_neutralOther_0 rfl rfl ?_
  refine am_callV (ac' := 0) (as' := 0) (xs := []) dC_neutralOther_1 lkC_198 (by first | rfl | exact sk8 (by omega) | exact sk9 (by omega) | exact sk10 (by omega) | exact sk11 (by omega)) rfl rfl rfl rfl (Nat.le_of_ble_eq_true rfl) rfl rfl (cO_isReshaping hv (fun cr => ?_) (fun cr => ?_))
  · refine am_if_eq_F (tgt := 32) dC_neutralOther_4 (by decide) (by decide) ?_
    obtain ⟨g3, e3⟩ := h3.ix (hq3 (by rcases cr with q | q | q <;> exact k2_of _ q (by decide))) (by omega)
    refine am_aload_n (i := 1) dC_neutralOther_7 rfl rfl ?_
    refine am_aload_n (i := 0) dC_neutralOther_8 rfl rfl ?_
    refine am_getf dC_neutralOther_9 flC_15 (by first | rfl | exact sk8 (by omega) | exact sk9 (by omega) | exact sk10 (by omega) | exact sk11 (by omega)) rfl ?_
    refine am_aload_n (i := 1) dC_neutralOther_12 rfl rfl ?_
    refine am_getf dC_neutralOther_13 flC_132 (by first | rfl | exact sk8 (by omega) | exact sk9 (by omega) | exact sk10 (by omega) | exact sk11 (by omega)) rfl ?_
    refine am_aald dC_neutralOther_16 (by first | rfl | exact sk8 (by omega) | exact sk9 (by omega) | exact sk10 (by omega) | exact sk11 (by omega)) e3 (by first | omega | assumption | decide) (by decide) (by decide) rfl rfl ?_
    refine am_callV (ac' := 0) (as' := 0) (xs := [_]) dC_neutralOther_17 lkC_147 (by first | rfl | exact sk8 (by omega) | exact sk9 (by omega) | exact sk10 (by omega) | exact sk11 (by omega)) rfl rfl rfl rfl (Nat.le_of_ble_eq_true rfl) rfl rfl (cO_hasShapeOf9 hv (by omega) (fun cs => ?_) (fun cs => ?_))
    · refine am_if_eq_F (tgt := 30) dC_neutralOther_20 (by decide) (by decide) ?_
      refine am_aload_n (i := 1) dC_neutralOther_23 rfl rfl ?_
      refine am_getf dC_neutralOther_24 flC_132 (by first | rfl | exact sk8 (by omega) | exact sk9 (by omega) | exact sk10 (by omega) | exact sk11 (by omega)) rfl ?_
      refine am_goto (tgt := 31) dC_neutralOther_27 (by decide) ?_
      refine am_iret (st := []) rfl rfl dC_neutralOther_31 ?_
      exact k _ (by unfold q_neut; grind)
    · refine am_if_eq_T (tgt := 30) dC_neutralOther_20 (by decide) (by decide) ?_
      refine am_iconst (v := (-1)) dC_neutralOther_30 (by decide) ?_
      refine am_iret (st := []) rfl rfl dC_neutralOther_31 ?_
      exact k _ (by unfold q_neut; grind)
  · refine am_if_eq_T (tgt := 32) dC_neutralOther_4 (by decide) (by decide) ?_
    refine am_aload_n (i := 1) dC_neutralOther_32 rfl rfl ?_
    refine am_getf dC_neutralOther_33 flC_129 (by first | rfl | exact sk8 (by omega) | exact sk9 (by omega) | exact sk10 (by omega) | exact sk11 (by omega)) rfl ?_
    refine am_iconst (v := 3) dC_neutralOther_36 (by decide) ?_
    refine am_icmp_eq (tgt := 50) dC_neutralOther_37 (by decide) (fun c37 => ?_) (fun c37 => ?_)
    · refine am_aload_n (i := 1) dC_neutralOther_50 rfl rfl ?_
      refine am_getf dC_neutralOther_51 flC_129 (by first | rfl | exact sk8 (by omega) | exact sk9 (by omega) | exact sk10 (by omega) | exact sk11 (by omega)) rfl ?_
      refine am_iconst (v := 3) dC_neutralOther_54 (by decide) ?_
      refine am_icmp_ne (tgt := 62) dC_neutralOther_55 (by decide) (fun c55 => ?_) (fun c55 => ?_)
      · refine am_iconst (v := 1) dC_neutralOther_62 (by decide) ?_
        refine am_istore_n (i := 2) dC_neutralOther_63 rfl (by decide) ?_
        obtain ⟨g3, e3⟩ := h3.ix (hq3 (by first | exact k2_of _ c37 (by decide) | exact k2_of _ c45 (by decide))) (by omega)
        obtain ⟨g4, e4⟩ := h4.ix (hq4 (by grind)) (by omega)
        refine am_aload_n (i := 0) dC_neutralOther_64 rfl rfl ?_
        refine am_aload_n (i := 1) dC_neutralOther_65 rfl rfl ?_
        refine am_getf dC_neutralOther_66 flC_132 (by first | rfl | exact sk8 (by omega) | exact sk9 (by omega) | exact sk10 (by omega) | exact sk11 (by omega)) rfl ?_
        refine am_iload_n (i := 2) dC_neutralOther_69 rfl rfl ?_
        refine am_callV (ac' := 0) (as' := 0) (xs := [_, _]) dC_neutralOther_70 lkC_184 (by first | rfl | exact sk8 (by omega) | exact sk9 (by omega) | exact sk10 (by omega) | exact sk11 (by omega)) rfl rfl rfl rfl (Nat.le_of_ble_eq_true rfl) rfl rfl (cC_isSplat (by omega) e3 (fun ca => ?_) (fun ca => ?_))
        · refine am_if_eq_F (tgt := 81) dC_neutralOther_73 (by decide) (by decide) ?_
          refine am_aload_n (i := 1) dC_neutralOther_76 rfl rfl ?_
          refine am_getf dC_neutralOther_77 flC_135 (by first | rfl | exact sk8 (by omega) | exact sk9 (by omega) | exact sk10 (by omega) | exact sk11 (by omega)) rfl ?_
          refine am_iret (st := []) rfl rfl dC_neutralOther_80 ?_
          exact k _ (by unfold q_neut; grind)
        · refine am_if_eq_T (tgt := 81) dC_neutralOther_73 (by decide) (by decide) ?_
          refine am_aload_n (i := 0) dC_neutralOther_81 rfl rfl ?_
          refine am_aload_n (i := 1) dC_neutralOther_82 rfl rfl ?_
          refine am_getf dC_neutralOther_83 flC_135 (by first | rfl | exact sk8 (by omega) | exact sk9 (by omega) | exact sk10 (by omega) | exact sk11 (by omega)) rfl ?_
          refine am_iload_n (i := 2) dC_neutralOther_86 rfl rfl ?_
          refine am_callV (ac' := 0) (as' := 0) (xs := [_, _]) dC_neutralOther_87 lkC_184 (by first | rfl | exact sk8 (by omega) | exact sk9 (by omega) | exact sk10 (by omega) | exact sk11 (by omega)) rfl rfl rfl rfl (Nat.le_of_ble_eq_true rfl) rfl rfl (cC_isSplat (by omega) e4 (fun cb => ?_) (fun cb => ?_))
          · refine am_if_eq_F (tgt := 100) dC_neutralOther_90 (by decide) (by decide) ?_
            refine am_aload_n (i := 1) dC_neutralOther_93 rfl rfl ?_
            refine am_getf dC_neutralOther_94 flC_132 (by first | rfl | exact sk8 (by omega) | exact sk9 (by omega) | exact sk10 (by omega) | exact sk11 (by omega)) rfl ?_
            refine am_goto (tgt := 101) dC_neutralOther_97 (by decide) ?_
            refine am_iret (st := []) rfl rfl dC_neutralOther_101 ?_
            exact k _ (by unfold q_neut; grind)
          · refine am_if_eq_T (tgt := 100) dC_neutralOther_90 (by decide) (by decide) ?_
            refine am_iconst (v := (-1)) dC_neutralOther_100 (by decide) ?_
            refine am_iret (st := []) rfl rfl dC_neutralOther_101 ?_
            exact k _ (by unfold q_neut; grind)
      · refine am_iconst (v := 0) dC_neutralOther_58 (by decide) ?_
        refine am_goto (tgt := 63) dC_neutralOther_59 (by decide) ?_
        refine am_istore_n (i := 2) dC_neutralOther_63 rfl (by decide) ?_
        obtain ⟨g3, e3⟩ := h3.ix (hq3 (by first | exact k2_of _ c37 (by decide) | exact k2_of _ c45 (by decide))) (by omega)
        obtain ⟨g4, e4⟩ := h4.ix (hq4 (by grind)) (by omega)
        refine am_aload_n (i := 0) dC_neutralOther_64 rfl rfl ?_
        refine am_aload_n (i := 1) dC_neutralOther_65 rfl rfl ?_
        refine am_getf dC_neutralOther_66 flC_132 (by first | rfl | exact sk8 (by omega) | exact sk9 (by omega) | exact sk10 (by omega) | exact sk11 (by omega)) rfl ?_
        refine am_iload_n (i := 2) dC_neutralOther_69 rfl rfl ?_
        refine am_callV (ac' := 0) (as' := 0) (xs := [_, _]) dC_neutralOther_70 lkC_184 (by first | rfl | exact sk8 (by omega) | exact sk9 (by omega) | exact sk10 (by omega) | exact sk11 (by omega)) rfl rfl rfl rfl (Nat.le_of_ble_eq_true rfl) rfl rfl (cC_isSplat (by omega) e3 (fun ca => ?_) (fun ca => ?_))
        · refine am_if_eq_F (tgt := 81) dC_neutralOther_73 (by decide) (by decide) ?_
          refine am_aload_n (i := 1) dC_neutralOther_76 rfl rfl ?_
          refine am_getf dC_neutralOther_77 flC_135 (by first | rfl | exact sk8 (by omega) | exact sk9 (by omega) | exact sk10 (by omega) | exact sk11 (by omega)) rfl ?_
          refine am_iret (st := []) rfl rfl dC_neutralOther_80 ?_
          exact k _ (by unfold q_neut; grind)
        · refine am_if_eq_T (tgt := 81) dC_neutralOther_73 (by decide) (by decide) ?_
          refine am_aload_n (i := 0) dC_neutralOther_81 rfl rfl ?_
          refine am_aload_n (i := 1) dC_neutralOther_82 rfl rfl ?_
          refine am_getf dC_neutralOther_83 flC_135 (by first | rfl | exact sk8 (by omega) | exact sk9 (by omega) | exact sk10 (by omega) | exact sk11 (by omega)) rfl ?_
          refine am_iload_n (i := 2) dC_neutralOther_86 rfl rfl ?_
          refine am_callV (ac' := 0) (as' := 0) (xs := [_, _]) dC_neutralOther_87 lkC_184 (by first | rfl | exact sk8 (by omega) | exact sk9 (by omega) | exact sk10 (by omega) | exact sk11 (by omega)) rfl rfl rfl rfl (Nat.le_of_ble_eq_true rfl) rfl rfl (cC_isSplat (by omega) e4 (fun cb => ?_) (fun cb => ?_))
          · refine am_if_eq_F (tgt := 100) dC_neutralOther_90 (by decide) (by decide) ?_
            refine am_aload_n (i := 1) dC_neutralOther_93 rfl rfl ?_
            refine am_getf dC_neutralOther_94 flC_132 (by first | rfl | exact sk8 (by omega) | exact sk9 (by omega) | exact sk10 (by omega) | exact sk11 (by omega)) rfl ?_
            refine am_goto (tgt := 101) dC_neutralOther_97 (by decide) ?_
            refine am_iret (st := []) rfl rfl dC_neutralOther_101 ?_
            exact k _ (by unfold q_neut; grind)
          · refine am_if_eq_T (tgt := 100) dC_neutralOther_90 (by decide) (by decide) ?_
            refine am_iconst (v := (-1)) dC_neutralOther_100 (by decide) ?_
            refine am_iret (st := []) rfl rfl dC_neutralOther_101 ?_
            exact k _ (by unfold q_neut; grind)
    · refine am_aload_n (i := 1) dC_neutralOther_40 rfl rfl ?_
      refine am_getf dC_neutralOther_41 flC_129 (by first | rfl | exact sk8 (by omega) | exact sk9 (by omega) | exact sk10 (by omega) | exact sk11 (by omega)) rfl ?_
      refine am_iconst (v := 4) dC_neutralOther_44 (by decide) ?_
      refine am_icmp_eq (tgt := 50) dC_neutralOther_45 (by decide) (fun c45 => ?_) (fun c45 => ?_)
      · refine am_aload_n (i := 1) dC_neutralOther_50 rfl rfl ?_
        refine am_getf dC_neutralOther_51 flC_129 (by first | rfl | exact sk8 (by omega) | exact sk9 (by omega) | exact sk10 (by omega) | exact sk11 (by omega)) rfl ?_
        refine am_iconst (v := 3) dC_neutralOther_54 (by decide) ?_
        refine am_icmp_ne (tgt := 62) dC_neutralOther_55 (by decide) (fun c55 => ?_) (fun c55 => ?_)
        · refine am_iconst (v := 1) dC_neutralOther_62 (by decide) ?_
          refine am_istore_n (i := 2) dC_neutralOther_63 rfl (by decide) ?_
          obtain ⟨g3, e3⟩ := h3.ix (hq3 (by first | exact k2_of _ c37 (by decide) | exact k2_of _ c45 (by decide))) (by omega)
          obtain ⟨g4, e4⟩ := h4.ix (hq4 (by grind)) (by omega)
          refine am_aload_n (i := 0) dC_neutralOther_64 rfl rfl ?_
          refine am_aload_n (i := 1) dC_neutralOther_65 rfl rfl ?_
          refine am_getf dC_neutralOther_66 flC_132 (by first | rfl | exact sk8 (by omega) | exact sk9 (by omega) | exact sk10 (by omega) | exact sk11 (by omega)) rfl ?_
          refine am_iload_n (i := 2) dC_neutralOther_69 rfl rfl ?_
          refine am_callV (ac' := 0) (as' := 0) (xs := [_, _]) dC_neutralOther_70 lkC_184 (by first | rfl | exact sk8 (by omega) | exact sk9 (by omega) | exact sk10 (by omega) | exact sk11 (by omega)) rfl rfl rfl rfl (Nat.le_of_ble_eq_true rfl) rfl rfl (cC_isSplat (by omega) e3 (fun ca => ?_) (fun ca => ?_))
          · refine am_if_eq_F (tgt := 81) dC_neutralOther_73 (by decide) (by decide) ?_
            refine am_aload_n (i := 1) dC_neutralOther_76 rfl rfl ?_
            refine am_getf dC_neutralOther_77 flC_135 (by first | rfl | exact sk8 (by omega) | exact sk9 (by omega) | exact sk10 (by omega) | exact sk11 (by omega)) rfl ?_
            refine am_iret (st := []) rfl rfl dC_neutralOther_80 ?_
            exact k _ (by unfold q_neut; grind)
          · refine am_if_eq_T (tgt := 81) dC_neutralOther_73 (by decide) (by decide) ?_
            refine am_aload_n (i := 0) dC_neutralOther_81 rfl rfl ?_
            refine am_aload_n (i := 1) dC_neutralOther_82 rfl rfl ?_
            refine am_getf dC_neutralOther_83 flC_135 (by first | rfl | exact sk8 (by omega) | exact sk9 (by omega) | exact sk10 (by omega) | exact sk11 (by omega)) rfl ?_
            refine am_iload_n (i := 2) dC_neutralOther_86 rfl rfl ?_
            refine am_callV (ac' := 0) (as' := 0) (xs := [_, _]) dC_neutralOther_87 lkC_184 (by first | rfl | exact sk8 (by omega) | exact sk9 (by omega) | exact sk10 (by omega) | exact sk11 (by omega)) rfl rfl rfl rfl (Nat.le_of_ble_eq_true rfl) rfl rfl (cC_isSplat (by omega) e4 (fun cb => ?_) (fun cb => ?_))
            · refine am_if_eq_F (tgt := 100) dC_neutralOther_90 (by decide) (by decide) ?_
              refine am_aload_n (i := 1) dC_neutralOther_93 rfl rfl ?_
              refine am_getf dC_neutralOther_94 flC_132 (by first | rfl | exact sk8 (by omega) | exact sk9 (by omega) | exact sk10 (by omega) | exact sk11 (by omega)) rfl ?_
              refine am_goto (tgt := 101) dC_neutralOther_97 (by decide) ?_
              refine am_iret (st := []) rfl rfl dC_neutralOther_101 ?_
              exact k _ (by unfold q_neut; grind)
            · refine am_if_eq_T (tgt := 100) dC_neutralOther_90 (by decide) (by decide) ?_
              refine am_iconst (v := (-1)) dC_neutralOther_100 (by decide) ?_
              refine am_iret (st := []) rfl rfl dC_neutralOther_101 ?_
              exact k _ (by unfold q_neut; grind)
        · refine am_iconst (v := 0) dC_neutralOther_58 (by decide) ?_
          refine am_goto (tgt := 63) dC_neutralOther_59 (by decide) ?_
          refine am_istore_n (i := 2) dC_neutralOther_63 rfl (by decide) ?_
          obtain ⟨g3, e3⟩ := h3.ix (hq3 (by first | exact k2_of _ c37 (by decide) | exact k2_of _ c45 (by decide))) (by omega)
          obtain ⟨g4, e4⟩ := h4.ix (hq4 (by grind)) (by omega)
          refine am_aload_n (i := 0) dC_neutralOther_64 rfl rfl ?_
          refine am_aload_n (i := 1) dC_neutralOther_65 rfl rfl ?_
          refine am_getf dC_neutralOther_66 flC_132 (by first | rfl | exact sk8 (by omega) | exact sk9 (by omega) | exact sk10 (by omega) | exact sk11 (by omega)) rfl ?_
          refine am_iload_n (i := 2) dC_neutralOther_69 rfl rfl ?_
          refine am_callV (ac' := 0) (as' := 0) (xs := [_, _]) dC_neutralOther_70 lkC_184 (by first | rfl | exact sk8 (by omega) | exact sk9 (by omega) | exact sk10 (by omega) | exact sk11 (by omega)) rfl rfl rfl rfl (Nat.le_of_ble_eq_true rfl) rfl rfl (cC_isSplat (by omega) e3 (fun ca => ?_) (fun ca => ?_))
          · refine am_if_eq_F (tgt := 81) dC_neutralOther_73 (by decide) (by decide) ?_
            refine am_aload_n (i := 1) dC_neutralOther_76 rfl rfl ?_
            refine am_getf dC_neutralOther_77 flC_135 (by first | rfl | exact sk8 (by omega) | exact sk9 (by omega) | exact sk10 (by omega) | exact sk11 (by omega)) rfl ?_
            refine am_iret (st := []) rfl rfl dC_neutralOther_80 ?_
            exact k _ (by unfold q_neut; grind)
          · refine am_if_eq_T (tgt := 81) dC_neutralOther_73 (by decide) (by decide) ?_
            refine am_aload_n (i := 0) dC_neutralOther_81 rfl rfl ?_
            refine am_aload_n (i := 1) dC_neutralOther_82 rfl rfl ?_
            refine am_getf dC_neutralOther_83 flC_135 (by first | rfl | exact sk8 (by omega) | exact sk9 (by omega) | exact sk10 (by omega) | exact sk11 (by omega)) rfl ?_
            refine am_iload_n (i := 2) dC_neutralOther_86 rfl rfl ?_
            refine am_callV (ac' := 0) (as' := 0) (xs := [_, _]) dC_neutralOther_87 lkC_184 (by first | rfl | exact sk8 (by omega) | exact sk9 (by omega) | exact sk10 (by omega) | exact sk11 (by omega)) rfl rfl rfl rfl (Nat.le_of_ble_eq_true rfl) rfl rfl (cC_isSplat (by omega) e4 (fun cb => ?_) (fun cb => ?_))
            · refine am_if_eq_F (tgt := 100) dC_neutralOther_90 (by decide) (by decide) ?_
              refine am_aload_n (i := 1) dC_neutralOther_93 rfl rfl ?_
              refine am_getf dC_neutralOther_94 flC_132 (by first | rfl | exact sk8 (by omega) | exact sk9 (by omega) | exact sk10 (by omega) | exact sk11 (by omega)) rfl ?_
              refine am_goto (tgt := 101) dC_neutralOther_97 (by decide) ?_
              refine am_iret (st := []) rfl rfl dC_neutralOther_101 ?_
              exact k _ (by unfold q_neut; grind)
            · refine am_if_eq_T (tgt := 100) dC_neutralOther_90 (by decide) (by decide) ?_
              refine am_iconst (v := (-1)) dC_neutralOther_100 (by decide) ?_
              refine am_iret (st := []) rfl rfl dC_neutralOther_101 ?_
              exact k _ (by unfold q_neut; grind)
      · refine am_iconst (v := (-1)) dC_neutralOther_48 (by decide) ?_
        refine am_iret (st := []) rfl rfl dC_neutralOther_49 ?_
        exact k _ (by unfold q_neut; grind)
set_option maxRecDepth 100000 in
set_option maxHeartbeats 4000000 in
theorem lpC_alike {g : am_G} {d : Nat} {Q : Option am_V → am_H → Prop} {Y : Nat → Nat → Nat → am_V} {A P : Nat → Nat → Int32} {st mk lv : Nat → Int32} {cl pr : Nat → Nat → Int32} {us : Nat → Int32} {va si wk : Int32} {v : Nat} (hv : v < 28) (kf : ∀ u, u < v → st u = nI u → q_like P u v → (∀ w, w < u → ¬ (st w = nI w ∧ q_like P w v)) → Q (some (am_I (nI u))) (hm (xc A P st mk lv cl pr (upd us 6 (us 6 + 1)) va si wk) Y)) (kn : (∀ w, w < v → ¬ (st w = nI w ∧ q_like P w v)) → Q (some (am_I (nI v))) (hm (xc A P st mk lv cl pr us va si wk) Y)) : ∀ (j i : Nat), i + j = v → (∀ w, w < i → ¬ (st w = nI w ∧ q_like P w v)) → am_T g mC_alikeOrItself (d + 2) 0 0 2 [some (am_O 0 0), some (am_I (nI v)), some (am_I (nI i))] [] (hm (xc A P st mk lv cl pr us va si wk) Y) Q := by
  intro j
  induction j with
  | zero =>
    intro i hi hw
    have e : i = v := by omega
    subst e
    refine am_iload_n (i := 2) dC_alikeOrItself_2 rfl rfl ?_
    refine am_iload_n (i := 1) dC_alikeOrItself_3 rfl rfl ?_
    refine am_icmp_ge_T (tgt := 54) dC_alikeOrItself_4 (by decide) ((nI_le' (by omega) (by omega)).mpr (by omega)) ?_
    refine am_iload_n (i := 1) dC_alikeOrItself_54 rfl rfl ?_
    refine am_iret (st := []) rfl rfl dC_alikeOrItself_55 ?_
    exact kn hw
  | succ j ih =>
    intro i hi hw
    refine am_iload_n (i := 2) dC_alikeOrItself_2 rfl rfl ?_
    refine am_iload_n (i := 1) dC_alikeOrItself_3 rfl rfl ?_
    refine am_icmp_ge_F (tgt := 54) dC_alikeOrItself_4 (by decide) (fun q => absurd ((nI_le' (by omega) (by omega)).mp q) (by omega)) ?_
    refine am_aload_n (i := 0) dC_alikeOrItself_7 rfl rfl ?_
    refine am_getf dC_alikeOrItself_8 flC_18 (by first | rfl | exact sk8 (by omega) | exact sk9 (by omega) | exact sk10 (by omega) | exact sk11 (by omega)) rfl ?_
    refine am_iload_n (i := 2) dC_alikeOrItself_11 rfl rfl ?_
    refine am_iald dC_alikeOrItself_12 (by first | rfl | exact sk8 (by omega) | exact sk9 (by omega) | exact sk10 (by omega) | exact sk11 (by omega)) rfl (by first | omega | assumption | decide) (by decide) (by decide) rfl ?_
    refine am_iload_n (i := 2) dC_alikeOrItself_13 rfl rfl ?_
    refine am_icmp_ne (tgt := 48) dC_alikeOrItself_14 (by decide) (fun c14 => ?_) (fun c14 => ?_)
    · refine am_iinc dC_alikeOrItself_48 rfl (by first | exact nI_1 _ | exact pk_m1 _ | rfl) (by decide) ?_
      refine am_goto (tgt := 2) dC_alikeOrItself_51 (by decide) ?_
      exact ih (i + 1) (by omega) (fun w hw' => by
        rcases Nat.lt_or_ge w i with q | q
        · exact hw w q
        · have e : w = i := by omega
          subst e
          grind)
    · refine am_aload_n (i := 0) dC_alikeOrItself_17 rfl rfl ?_
      refine am_getf dC_alikeOrItself_18 flC_15 (by first | rfl | exact sk8 (by omega) | exact sk9 (by omega) | exact sk10 (by omega) | exact sk11 (by omega)) rfl ?_
      refine am_iload_n (i := 2) dC_alikeOrItself_21 rfl rfl ?_
      refine am_aald dC_alikeOrItself_22 (by first | rfl | exact sk8 (by omega) | exact sk9 (by omega) | exact sk10 (by omega) | exact sk11 (by omega)) rfl (by first | omega | assumption | decide) (by decide) (by decide) rfl rfl ?_
      refine am_aload_n (i := 0) dC_alikeOrItself_23 rfl rfl ?_
      refine am_getf dC_alikeOrItself_24 flC_15 (by first | rfl | exact sk8 (by omega) | exact sk9 (by omega) | exact sk10 (by omega) | exact sk11 (by omega)) rfl ?_
      refine am_iload_n (i := 1) dC_alikeOrItself_27 rfl rfl ?_
      refine am_aald dC_alikeOrItself_28 (by first | rfl | exact sk8 (by omega) | exact sk9 (by omega) | exact sk10 (by omega) | exact sk11 (by omega)) rfl (by first | omega | assumption | decide) (by decide) (by decide) rfl rfl ?_
      refine am_callV (ac' := 0) (as' := 0) (xs := [_]) dC_alikeOrItself_29 lkC_201 (by first | rfl | exact sk8 (by omega) | exact sk9 (by omega) | exact sk10 (by omega) | exact sk11 (by omega)) rfl rfl rfl rfl (Nat.le_of_ble_eq_true rfl) rfl rfl (cO_isLike (by omega) hv (fun cs => ?_) (fun cs => ?_))
      · refine am_if_eq_F (tgt := 48) dC_alikeOrItself_32 (by decide) (by decide) ?_
        refine am_aload_n (i := 0) dC_alikeOrItself_35 rfl rfl ?_
        refine am_getf dC_alikeOrItself_36 flC_37 (by first | rfl | exact sk8 (by omega) | exact sk9 (by omega) | exact sk10 (by omega) | exact sk11 (by omega)) rfl ?_
        refine am_bipush (v := 6) dC_alikeOrItself_39 (by decide) ?_
        refine am_dup2 dC_alikeOrItself_41 rfl rfl ?_
        refine am_iald dC_alikeOrItself_42 (by first | rfl | exact sk8 (by omega) | exact sk9 (by omega) | exact sk10 (by omega) | exact sk11 (by omega)) rfl (by first | omega | assumption | decide) (by decide) (by decide) rfl ?_
        refine am_iconst (v := 1) dC_alikeOrItself_43 (by decide) ?_
        refine am_iadd dC_alikeOrItself_44 ?_
        refine am_iast' dC_alikeOrItself_45 (by first | rfl | exact sk8 (by omega) | exact sk9 (by omega) | exact sk10 (by omega) | exact sk11 (by omega)) rfl (by first | omega | assumption | decide) (by decide) (by decide) (by first | exact wx_st | exact wx_mk | exact wx_lv | exact wx_us | exact wx_A | exact wx_P | exact wx_cl | exact wx_pr | exact wx_va | exact wx_si | exact wx_wk) ?_
        refine am_iload_n (i := 2) dC_alikeOrItself_46 rfl rfl ?_
        refine am_iret (st := []) rfl rfl dC_alikeOrItself_47 ?_
        exact kf i (by omega) (by grind) cs hw
      · refine am_if_eq_T (tgt := 48) dC_alikeOrItself_32 (by decide) (by decide) ?_
        refine am_iinc dC_alikeOrItself_48 rfl (by first | exact nI_1 _ | exact pk_m1 _ | rfl) (by decide) ?_
        refine am_goto (tgt := 2) dC_alikeOrItself_51 (by decide) ?_
        exact ih (i + 1) (by omega) (fun w hw' => by
          rcases Nat.lt_or_ge w i with q | q
          · exact hw w q
          · have e : w = i := by omega
            subst e
            grind)
set_option maxRecDepth 100000 in
set_option maxHeartbeats 4000000 in
theorem cC_alikeOrItself {g : am_G} {d : Nat} {Q : Option am_V → am_H → Prop} {Y : Nat → Nat → Nat → am_V} {A P : Nat → Nat → Int32} {st mk lv : Nat → Int32} {cl pr : Nat → Nat → Int32} {us : Nat → Int32} {va si wk : Int32} {v : Nat} (hv : v < 28) (kf : ∀ u, u < v → st u = nI u → q_like P u v → (∀ w, w < u → ¬ (st w = nI w ∧ q_like P w v)) → Q (some (am_I (nI u))) (hm (xc A P st mk lv cl pr (upd us 6 (us 6 + 1)) va si wk) Y)) (kn : (∀ w, w < v → ¬ (st w = nI w ∧ q_like P w v)) → Q (some (am_I (nI v))) (hm (xc A P st mk lv cl pr us va si wk) Y)) : am_C g mC_alikeOrItself (d + 2) 0 0 [am_O 0 0, am_I (nI v)] (hm (xc A P st mk lv cl pr us va si wk) Y) Q := by
  refine am_enter (lv := [some (am_O 0 0), some (am_I (nI v)), none]) rfl rfl (am_cat1 rfl) (Nat.le_of_ble_eq_true rfl) ?_
  refine am_iconst (v := 0) dC_alikeOrItself_0 (by decide) ?_
  refine am_istore_n (i := 2) dC_alikeOrItself_1 rfl (by decide) ?_
  exact lpC_alike hv kf kn v 0 (by omega) (fun w hw => absurd hw (by omega))
set_option maxRecDepth 100000 in
set_option maxHeartbeats 4000000 in
theorem cC_replaceArguments {g : am_G} {d : Nat} {Q : Option am_V → am_H → Prop} {Y : Nat → Nat → Nat → am_V} {A P : Nat → Nat → Int32} {st mk lv : Nat → Int32} {cl pr : Nat → Nat → Int32} {us : Nat → Int32} {va si wk : Int32} {v : Nat} (hv : v < 28) (h3 : q_arg (P v 3) v) (h4 : q_arg (P v 4) v) (k : ∀ T, T = q_rep st P v → Q none (hm (xc A T st mk lv cl pr us va si wk) Y)) : am_C g mC_replaceArguments (d + 1) 0 0 [am_O 0 0, am_O 9 v] (hm (xc A P st mk lv cl pr us va si wk) Y) Q := by
  refine am_enter (lv := [some (am_O 0 0), some (am_O 9 v), none]) rfl rfl (am_cat1 rfl) (Nat.le_of_ble_eq_true rfl) ?_
  refine am_aload_n (i := 1) dC_replaceArguments_0 rfl rfl ?_
  refine am_getf dC_replaceArguments_1 flC_132 (by first | rfl | exact sk8 (by omega) | exact sk9 (by omega) | exact sk10 (by omega) | exact sk11 (by omega)) rfl ?_
  refine am_iconst (v := (-1)) dC_replaceArguments_4 (by decide) ?_
  refine am_icmp_eq (tgt := 21) dC_replaceArguments_5 (by decide) (fun c5 => ?_) (fun c5 => ?_)
  · refine am_aload_n (i := 1) dC_replaceArguments_21 rfl rfl ?_
    refine am_getf dC_replaceArguments_22 flC_135 (by first | rfl | exact sk8 (by omega) | exact sk9 (by omega) | exact sk10 (by omega) | exact sk11 (by omega)) (by first | exact congrArg am_I (up2_eq _ _ _ _) | exact congrArg am_I ((up2_k (by decide)).trans (up2_eq _ _ _ _)) | exact congrArg am_I ((up2_k (by decide)).trans (up2_k (by decide))) | exact congrArg am_I (up2_k (by decide)) | rfl) ?_
    refine am_iconst (v := (-1)) dC_replaceArguments_25 (by decide) ?_
    refine am_icmp_eq (tgt := 42) dC_replaceArguments_26 (by decide) (fun c26 => ?_) (fun c26 => ?_)
    · refine am_aload_n (i := 1) dC_replaceArguments_42 rfl rfl ?_
      refine am_callV (ac' := 0) (as' := 0) (xs := []) dC_replaceArguments_43 lkC_165 (by first | rfl | exact sk8 (by omega) | exact sk9 (by omega) | exact sk10 (by omega) | exact sk11 (by omega)) rfl rfl rfl rfl (Nat.le_of_ble_eq_true rfl) rfl rfl (cO_takesPairs hv (fun cs => ?_) (fun cs => ?_))
      · refine am_if_eq_F (tgt := 78) dC_replaceArguments_46 (by decide) (by decide) ?_
        refine am_aload_n (i := 1) dC_replaceArguments_49 rfl rfl ?_
        refine am_getf dC_replaceArguments_50 flC_132 (by first | rfl | exact sk8 (by omega) | exact sk9 (by omega) | exact sk10 (by omega) | exact sk11 (by omega)) (by first | exact congrArg am_I (up2_eq _ _ _ _) | exact congrArg am_I ((up2_k (by decide)).trans (up2_eq _ _ _ _)) | exact congrArg am_I ((up2_k (by decide)).trans (up2_k (by decide))) | exact congrArg am_I (up2_k (by decide)) | rfl) ?_
        refine am_aload_n (i := 1) dC_replaceArguments_53 rfl rfl ?_
        refine am_getf dC_replaceArguments_54 flC_135 (by first | rfl | exact sk8 (by omega) | exact sk9 (by omega) | exact sk10 (by omega) | exact sk11 (by omega)) (by first | exact congrArg am_I (up2_eq _ _ _ _) | exact congrArg am_I ((up2_k (by decide)).trans (up2_eq _ _ _ _)) | exact congrArg am_I ((up2_k (by decide)).trans (up2_k (by decide))) | exact congrArg am_I (up2_k (by decide)) | rfl) ?_
        refine am_icmp_le (tgt := 78) dC_replaceArguments_57 (by decide) (fun c57 => ?_) (fun c57 => ?_)
        · refine am_vret (st := []) rfl dC_replaceArguments_78 ?_
          refine k _ ?_
          unfold q_rep
          funext i m
          unfold q_sw q_r3 q_r4
          unfold up2 at *
          grind
        · refine am_aload_n (i := 1) dC_replaceArguments_60 rfl rfl ?_
          refine am_getf dC_replaceArguments_61 flC_132 (by first | rfl | exact sk8 (by omega) | exact sk9 (by omega) | exact sk10 (by omega) | exact sk11 (by omega)) (by first | exact congrArg am_I (up2_eq _ _ _ _) | exact congrArg am_I ((up2_k (by decide)).trans (up2_eq _ _ _ _)) | exact congrArg am_I ((up2_k (by decide)).trans (up2_k (by decide))) | exact congrArg am_I (up2_k (by decide)) | rfl) ?_
          refine am_istore_n (i := 2) dC_replaceArguments_64 rfl (by decide) ?_
          refine am_aload_n (i := 1) dC_replaceArguments_65 rfl rfl ?_
          refine am_aload_n (i := 1) dC_replaceArguments_66 rfl rfl ?_
          refine am_getf dC_replaceArguments_67 flC_135 (by first | rfl | exact sk8 (by omega) | exact sk9 (by omega) | exact sk10 (by omega) | exact sk11 (by omega)) (by first | exact congrArg am_I (up2_eq _ _ _ _) | exact congrArg am_I ((up2_k (by decide)).trans (up2_eq _ _ _ _)) | exact congrArg am_I ((up2_k (by decide)).trans (up2_k (by decide))) | exact congrArg am_I (up2_k (by decide)) | rfl) ?_
          refine am_putf' dC_replaceArguments_70 flC_132 (by first | rfl | exact sk8 (by omega) | exact sk9 (by omega) | exact sk10 (by omega) | exact sk11 (by omega)) rfl (fun _ => ⟨rfl, rfl⟩) (by first | exact wx_st | exact wx_mk | exact wx_lv | exact wx_us | exact wx_A | exact wx_P | exact wx_cl | exact wx_pr | exact wx_va | exact wx_si | exact wx_wk) ?_
          refine am_aload_n (i := 1) dC_replaceArguments_73 rfl rfl ?_
          refine am_iload_n (i := 2) dC_replaceArguments_74 rfl rfl ?_
          refine am_putf' dC_replaceArguments_75 flC_135 (by first | rfl | exact sk8 (by omega) | exact sk9 (by omega) | exact sk10 (by omega) | exact sk11 (by omega)) rfl (fun _ => ⟨rfl, rfl⟩) (by first | exact wx_st | exact wx_mk | exact wx_lv | exact wx_us | exact wx_A | exact wx_P | exact wx_cl | exact wx_pr | exact wx_va | exact wx_si | exact wx_wk) ?_
          refine am_vret (st := []) rfl dC_replaceArguments_78 ?_
          refine k _ ?_
          unfold q_rep
          funext i m
          unfold q_sw q_r3 q_r4
          unfold up2 at *
          grind
      · refine am_if_eq_T (tgt := 78) dC_replaceArguments_46 (by decide) (by decide) ?_
        refine am_vret (st := []) rfl dC_replaceArguments_78 ?_
        refine k _ ?_
        unfold q_rep
        funext i m
        unfold q_sw q_r3 q_r4
        unfold up2 at *
        grind
    · obtain ⟨g4, e4⟩ := h4.ix c26 (by omega)
      refine am_aload_n (i := 1) dC_replaceArguments_29 rfl rfl ?_
      refine am_aload_n (i := 0) dC_replaceArguments_30 rfl rfl ?_
      refine am_getf dC_replaceArguments_31 flC_18 (by first | rfl | exact sk8 (by omega) | exact sk9 (by omega) | exact sk10 (by omega) | exact sk11 (by omega)) rfl ?_
      refine am_aload_n (i := 1) dC_replaceArguments_34 rfl rfl ?_
      refine am_getf dC_replaceArguments_35 flC_135 (by first | rfl | exact sk8 (by omega) | exact sk9 (by omega) | exact sk10 (by omega) | exact sk11 (by omega)) (by first | exact congrArg am_I (up2_eq _ _ _ _) | exact congrArg am_I ((up2_k (by decide)).trans (up2_eq _ _ _ _)) | exact congrArg am_I ((up2_k (by decide)).trans (up2_k (by decide))) | exact congrArg am_I (up2_k (by decide)) | rfl) ?_
      refine am_iald dC_replaceArguments_38 (by first | rfl | exact sk8 (by omega) | exact sk9 (by omega) | exact sk10 (by omega) | exact sk11 (by omega)) e4 (by first | omega | assumption | decide) (by decide) (by decide) rfl ?_
      refine am_putf' dC_replaceArguments_39 flC_135 (by first | rfl | exact sk8 (by omega) | exact sk9 (by omega) | exact sk10 (by omega) | exact sk11 (by omega)) rfl (fun _ => ⟨rfl, rfl⟩) (by first | exact wx_st | exact wx_mk | exact wx_lv | exact wx_us | exact wx_A | exact wx_P | exact wx_cl | exact wx_pr | exact wx_va | exact wx_si | exact wx_wk) ?_
      refine am_aload_n (i := 1) dC_replaceArguments_42 rfl rfl ?_
      refine am_callV (ac' := 0) (as' := 0) (xs := []) dC_replaceArguments_43 lkC_165 (by first | rfl | exact sk8 (by omega) | exact sk9 (by omega) | exact sk10 (by omega) | exact sk11 (by omega)) rfl rfl rfl rfl (Nat.le_of_ble_eq_true rfl) rfl rfl (cO_takesPairs hv (fun cs => ?_) (fun cs => ?_))
      · refine am_if_eq_F (tgt := 78) dC_replaceArguments_46 (by decide) (by decide) ?_
        refine am_aload_n (i := 1) dC_replaceArguments_49 rfl rfl ?_
        refine am_getf dC_replaceArguments_50 flC_132 (by first | rfl | exact sk8 (by omega) | exact sk9 (by omega) | exact sk10 (by omega) | exact sk11 (by omega)) (by first | exact congrArg am_I (up2_eq _ _ _ _) | exact congrArg am_I ((up2_k (by decide)).trans (up2_eq _ _ _ _)) | exact congrArg am_I ((up2_k (by decide)).trans (up2_k (by decide))) | exact congrArg am_I (up2_k (by decide)) | rfl) ?_
        refine am_aload_n (i := 1) dC_replaceArguments_53 rfl rfl ?_
        refine am_getf dC_replaceArguments_54 flC_135 (by first | rfl | exact sk8 (by omega) | exact sk9 (by omega) | exact sk10 (by omega) | exact sk11 (by omega)) (by first | exact congrArg am_I (up2_eq _ _ _ _) | exact congrArg am_I ((up2_k (by decide)).trans (up2_eq _ _ _ _)) | exact congrArg am_I ((up2_k (by decide)).trans (up2_k (by decide))) | exact congrArg am_I (up2_k (by decide)) | rfl) ?_
        refine am_icmp_le (tgt := 78) dC_replaceArguments_57 (by decide) (fun c57 => ?_) (fun c57 => ?_)
        · refine am_vret (st := []) rfl dC_replaceArguments_78 ?_
          refine k _ ?_
          unfold q_rep
          funext i m
          unfold q_sw q_r3 q_r4
          unfold up2 at *
          grind
        · refine am_aload_n (i := 1) dC_replaceArguments_60 rfl rfl ?_
          refine am_getf dC_replaceArguments_61 flC_132 (by first | rfl | exact sk8 (by omega) | exact sk9 (by omega) | exact sk10 (by omega) | exact sk11 (by omega)) (by first | exact congrArg am_I (up2_eq _ _ _ _) | exact congrArg am_I ((up2_k (by decide)).trans (up2_eq _ _ _ _)) | exact congrArg am_I ((up2_k (by decide)).trans (up2_k (by decide))) | exact congrArg am_I (up2_k (by decide)) | rfl) ?_
          refine am_istore_n (i := 2) dC_replaceArguments_64 rfl (by decide) ?_
          refine am_aload_n (i := 1) dC_replaceArguments_65 rfl rfl ?_
          refine am_aload_n (i := 1) dC_replaceArguments_66 rfl rfl ?_
          refine am_getf dC_replaceArguments_67 flC_135 (by first | rfl | exact sk8 (by omega) | exact sk9 (by omega) | exact sk10 (by omega) | exact sk11 (by omega)) (by first | exact congrArg am_I (up2_eq _ _ _ _) | exact congrArg am_I ((up2_k (by decide)).trans (up2_eq _ _ _ _)) | exact congrArg am_I ((up2_k (by decide)).trans (up2_k (by decide))) | exact congrArg am_I (up2_k (by decide)) | rfl) ?_
          refine am_putf' dC_replaceArguments_70 flC_132 (by first | rfl | exact sk8 (by omega) | exact sk9 (by omega) | exact sk10 (by omega) | exact sk11 (by omega)) rfl (fun _ => ⟨rfl, rfl⟩) (by first | exact wx_st | exact wx_mk | exact wx_lv | exact wx_us | exact wx_A | exact wx_P | exact wx_cl | exact wx_pr | exact wx_va | exact wx_si | exact wx_wk) ?_
          refine am_aload_n (i := 1) dC_replaceArguments_73 rfl rfl ?_
          refine am_iload_n (i := 2) dC_replaceArguments_74 rfl rfl ?_
          refine am_putf' dC_replaceArguments_75 flC_135 (by first | rfl | exact sk8 (by omega) | exact sk9 (by omega) | exact sk10 (by omega) | exact sk11 (by omega)) rfl (fun _ => ⟨rfl, rfl⟩) (by first | exact wx_st | exact wx_mk | exact wx_lv | exact wx_us | exact wx_A | exact wx_P | exact wx_cl | exact wx_pr | exact wx_va | exact wx_si | exact wx_wk) ?_
          refine am_vret (st := []) rfl dC_replaceArguments_78 ?_
          refine k _ ?_
          unfold q_rep
          funext i m
          unfold q_sw q_r3 q_r4
          unfold up2 at *
          grind
      · refine am_if_eq_T (tgt := 78) dC_replaceArguments_46 (by decide) (by decide) ?_
        refine am_vret (st := []) rfl dC_replaceArguments_78 ?_
        refine k _ ?_
        unfold q_rep
        funext i m
        unfold q_sw q_r3 q_r4
        unfold up2 at *
        grind
  · obtain ⟨g3, e3⟩ := h3.ix c5 (by omega)
    refine am_aload_n (i := 1) dC_replaceArguments_8 rfl rfl ?_
    refine am_aload_n (i := 0) dC_replaceArguments_9 rfl rfl ?_
    refine am_getf dC_replaceArguments_10 flC_18 (by first | rfl | exact sk8 (by omega) | exact sk9 (by omega) | exact sk10 (by omega) | exact sk11 (by omega)) rfl ?_
    refine am_aload_n (i := 1) dC_replaceArguments_13 rfl rfl ?_
    refine am_getf dC_replaceArguments_14 flC_132 (by first | rfl | exact sk8 (by omega) | exact sk9 (by omega) | exact sk10 (by omega) | exact sk11 (by omega)) rfl ?_
    refine am_iald dC_replaceArguments_17 (by first | rfl | exact sk8 (by omega) | exact sk9 (by omega) | exact sk10 (by omega) | exact sk11 (by omega)) e3 (by first | omega | assumption | decide) (by decide) (by decide) rfl ?_
    refine am_putf' dC_replaceArguments_18 flC_132 (by first | rfl | exact sk8 (by omega) | exact sk9 (by omega) | exact sk10 (by omega) | exact sk11 (by omega)) rfl (fun _ => ⟨rfl, rfl⟩) (by first | exact wx_st | exact wx_mk | exact wx_lv | exact wx_us | exact wx_A | exact wx_P | exact wx_cl | exact wx_pr | exact wx_va | exact wx_si | exact wx_wk) ?_
    refine am_aload_n (i := 1) dC_replaceArguments_21 rfl rfl ?_
    refine am_getf dC_replaceArguments_22 flC_135 (by first | rfl | exact sk8 (by omega) | exact sk9 (by omega) | exact sk10 (by omega) | exact sk11 (by omega)) (by first | exact congrArg am_I (up2_eq _ _ _ _) | exact congrArg am_I ((up2_k (by decide)).trans (up2_eq _ _ _ _)) | exact congrArg am_I ((up2_k (by decide)).trans (up2_k (by decide))) | exact congrArg am_I (up2_k (by decide)) | rfl) ?_
    refine am_iconst (v := (-1)) dC_replaceArguments_25 (by decide) ?_
    refine am_icmp_eq (tgt := 42) dC_replaceArguments_26 (by decide) (fun c26 => ?_) (fun c26 => ?_)
    · refine am_aload_n (i := 1) dC_replaceArguments_42 rfl rfl ?_
      refine am_callV (ac' := 0) (as' := 0) (xs := []) dC_replaceArguments_43 lkC_165 (by first | rfl | exact sk8 (by omega) | exact sk9 (by omega) | exact sk10 (by omega) | exact sk11 (by omega)) rfl rfl rfl rfl (Nat.le_of_ble_eq_true rfl) rfl rfl (cO_takesPairs hv (fun cs => ?_) (fun cs => ?_))
      · refine am_if_eq_F (tgt := 78) dC_replaceArguments_46 (by decide) (by decide) ?_
        refine am_aload_n (i := 1) dC_replaceArguments_49 rfl rfl ?_
        refine am_getf dC_replaceArguments_50 flC_132 (by first | rfl | exact sk8 (by omega) | exact sk9 (by omega) | exact sk10 (by omega) | exact sk11 (by omega)) (by first | exact congrArg am_I (up2_eq _ _ _ _) | exact congrArg am_I ((up2_k (by decide)).trans (up2_eq _ _ _ _)) | exact congrArg am_I ((up2_k (by decide)).trans (up2_k (by decide))) | exact congrArg am_I (up2_k (by decide)) | rfl) ?_
        refine am_aload_n (i := 1) dC_replaceArguments_53 rfl rfl ?_
        refine am_getf dC_replaceArguments_54 flC_135 (by first | rfl | exact sk8 (by omega) | exact sk9 (by omega) | exact sk10 (by omega) | exact sk11 (by omega)) (by first | exact congrArg am_I (up2_eq _ _ _ _) | exact congrArg am_I ((up2_k (by decide)).trans (up2_eq _ _ _ _)) | exact congrArg am_I ((up2_k (by decide)).trans (up2_k (by decide))) | exact congrArg am_I (up2_k (by decide)) | rfl) ?_
        refine am_icmp_le (tgt := 78) dC_replaceArguments_57 (by decide) (fun c57 => ?_) (fun c57 => ?_)
        · refine am_vret (st := []) rfl dC_replaceArguments_78 ?_
          refine k _ ?_
          unfold q_rep
          funext i m
          unfold q_sw q_r3 q_r4
          unfold up2 at *
          grind
        · refine am_aload_n (i := 1) dC_replaceArguments_60 rfl rfl ?_
          refine am_getf dC_replaceArguments_61 flC_132 (by first | rfl | exact sk8 (by omega) | exact sk9 (by omega) | exact sk10 (by omega) | exact sk11 (by omega)) (by first | exact congrArg am_I (up2_eq _ _ _ _) | exact congrArg am_I ((up2_k (by decide)).trans (up2_eq _ _ _ _)) | exact congrArg am_I ((up2_k (by decide)).trans (up2_k (by decide))) | exact congrArg am_I (up2_k (by decide)) | rfl) ?_
          refine am_istore_n (i := 2) dC_replaceArguments_64 rfl (by decide) ?_
          refine am_aload_n (i := 1) dC_replaceArguments_65 rfl rfl ?_
          refine am_aload_n (i := 1) dC_replaceArguments_66 rfl rfl ?_
          refine am_getf dC_replaceArguments_67 flC_135 (by first | rfl | exact sk8 (by omega) | exact sk9 (by omega) | exact sk10 (by omega) | exact sk11 (by omega)) (by first | exact congrArg am_I (up2_eq _ _ _ _) | exact congrArg am_I ((up2_k (by decide)).trans (up2_eq _ _ _ _)) | exact congrArg am_I ((up2_k (by decide)).trans (up2_k (by decide))) | exact congrArg am_I (up2_k (by decide)) | rfl) ?_
          refine am_putf' dC_replaceArguments_70 flC_132 (by first | rfl | exact sk8 (by omega) | exact sk9 (by omega) | exact sk10 (by omega) | exact sk11 (by omega)) rfl (fun _ => ⟨rfl, rfl⟩) (by first | exact wx_st | exact wx_mk | exact wx_lv | exact wx_us | exact wx_A | exact wx_P | exact wx_cl | exact wx_pr | exact wx_va | exact wx_si | exact wx_wk) ?_
          refine am_aload_n (i := 1) dC_replaceArguments_73 rfl rfl ?_
          refine am_iload_n (i := 2) dC_replaceArguments_74 rfl rfl ?_
          refine am_putf' dC_replaceArguments_75 flC_135 (by first | rfl | exact sk8 (by omega) | exact sk9 (by omega) | exact sk10 (by omega) | exact sk11 (by omega)) rfl (fun _ => ⟨rfl, rfl⟩) (by first | exact wx_st | exact wx_mk | exact wx_lv | exact wx_us | exact wx_A | exact wx_P | exact wx_cl | exact wx_pr | exact wx_va | exact wx_si | exact wx_wk) ?_
          refine am_vret (st := []) rfl dC_replaceArguments_78 ?_
          refine k _ ?_
          unfold q_rep
          funext i m
          unfold q_sw q_r3 q_r4
          unfold up2 at *
          grind
      · refine am_if_eq_T (tgt := 78) dC_replaceArguments_46 (by decide) (by decide) ?_
        refine am_vret (st := []) rfl dC_replaceArguments_78 ?_
        refine k _ ?_
        unfold q_rep
        funext i m
        unfold q_sw q_r3 q_r4
        unfold up2 at *
        grind
    · obtain ⟨g4, e4⟩ := h4.ix c26 (by omega)
      refine am_aload_n (i := 1) dC_replaceArguments_29 rfl rfl ?_
      refine am_aload_n (i := 0) dC_replaceArguments_30 rfl rfl ?_
      refine am_getf dC_replaceArguments_31 flC_18 (by first | rfl | exact sk8 (by omega) | exact sk9 (by omega) | exact sk10 (by omega) | exact sk11 (by omega)) rfl ?_
      refine am_aload_n (i := 1) dC_replaceArguments_34 rfl rfl ?_
      refine am_getf dC_replaceArguments_35 flC_135 (by first | rfl | exact sk8 (by omega) | exact sk9 (by omega) | exact sk10 (by omega) | exact sk11 (by omega)) (by first | exact congrArg am_I (up2_eq _ _ _ _) | exact congrArg am_I ((up2_k (by decide)).trans (up2_eq _ _ _ _)) | exact congrArg am_I ((up2_k (by decide)).trans (up2_k (by decide))) | exact congrArg am_I (up2_k (by decide)) | rfl) ?_
      refine am_iald dC_replaceArguments_38 (by first | rfl | exact sk8 (by omega) | exact sk9 (by omega) | exact sk10 (by omega) | exact sk11 (by omega)) e4 (by first | omega | assumption | decide) (by decide) (by decide) rfl ?_
      refine am_putf' dC_replaceArguments_39 flC_135 (by first | rfl | exact sk8 (by omega) | exact sk9 (by omega) | exact sk10 (by omega) | exact sk11 (by omega)) rfl (fun _ => ⟨rfl, rfl⟩) (by first | exact wx_st | exact wx_mk | exact wx_lv | exact wx_us | exact wx_A | exact wx_P | exact wx_cl | exact wx_pr | exact wx_va | exact wx_si | exact wx_wk) ?_
      refine am_aload_n (i := 1) dC_replaceArguments_42 rfl rfl ?_
      refine am_callV (ac' := 0) (as' := 0) (xs := []) dC_replaceArguments_43 lkC_165 (by first | rfl | exact sk8 (by omega) | exact sk9 (by omega) | exact sk10 (by omega) | exact sk11 (by omega)) rfl rfl rfl rfl (Nat.le_of_ble_eq_true rfl) rfl rfl (cO_takesPairs hv (fun cs => ?_) (fun cs => ?_))
      · refine am_if_eq_F (tgt := 78) dC_replaceArguments_46 (by decide) (by decide) ?_
        refine am_aload_n (i := 1) dC_replaceArguments_49 rfl rfl ?_
        refine am_getf dC_replaceArguments_50 flC_132 (by first | rfl | exact sk8 (by omega) | exact sk9 (by omega) | exact sk10 (by omega) | exact sk11 (by omega)) (by first | exact congrArg am_I (up2_eq _ _ _ _) | exact congrArg am_I ((up2_k (by decide)).trans (up2_eq _ _ _ _)) | exact congrArg am_I ((up2_k (by decide)).trans (up2_k (by decide))) | exact congrArg am_I (up2_k (by decide)) | rfl) ?_
        refine am_aload_n (i := 1) dC_replaceArguments_53 rfl rfl ?_
        refine am_getf dC_replaceArguments_54 flC_135 (by first | rfl | exact sk8 (by omega) | exact sk9 (by omega) | exact sk10 (by omega) | exact sk11 (by omega)) (by first | exact congrArg am_I (up2_eq _ _ _ _) | exact congrArg am_I ((up2_k (by decide)).trans (up2_eq _ _ _ _)) | exact congrArg am_I ((up2_k (by decide)).trans (up2_k (by decide))) | exact congrArg am_I (up2_k (by decide)) | rfl) ?_
        refine am_icmp_le (tgt := 78) dC_replaceArguments_57 (by decide) (fun c57 => ?_) (fun c57 => ?_)
        · refine am_vret (st := []) rfl dC_replaceArguments_78 ?_
          refine k _ ?_
          unfold q_rep
          funext i m
          unfold q_sw q_r3 q_r4
          unfold up2 at *
          grind
        · refine am_aload_n (i := 1) dC_replaceArguments_60 rfl rfl ?_
          refine am_getf dC_replaceArguments_61 flC_132 (by first | rfl | exact sk8 (by omega) | exact sk9 (by omega) | exact sk10 (by omega) | exact sk11 (by omega)) (by first | exact congrArg am_I (up2_eq _ _ _ _) | exact congrArg am_I ((up2_k (by decide)).trans (up2_eq _ _ _ _)) | exact congrArg am_I ((up2_k (by decide)).trans (up2_k (by decide))) | exact congrArg am_I (up2_k (by decide)) | rfl) ?_
          refine am_istore_n (i := 2) dC_replaceArguments_64 rfl (by decide) ?_
          refine am_aload_n (i := 1) dC_replaceArguments_65 rfl rfl ?_
          refine am_aload_n (i := 1) dC_replaceArguments_66 rfl rfl ?_
          refine am_getf dC_replaceArguments_67 flC_135 (by first | rfl | exact sk8 (by omega) | exact sk9 (by omega) | exact sk10 (by omega) | exact sk11 (by omega)) (by first | exact congrArg am_I (up2_eq _ _ _ _) | exact congrArg am_I ((up2_k (by decide)).trans (up2_eq _ _ _ _)) | exact congrArg am_I ((up2_k (by decide)).trans (up2_k (by decide))) | exact congrArg am_I (up2_k (by decide)) | rfl) ?_
          refine am_putf' dC_replaceArguments_70 flC_132 (by first | rfl | exact sk8 (by omega) | exact sk9 (by omega) | exact sk10 (by omega) | exact sk11 (by omega)) rfl (fun _ => ⟨rfl, rfl⟩) (by first | exact wx_st | exact wx_mk | exact wx_lv | exact wx_us | exact wx_A | exact wx_P | exact wx_cl | exact wx_pr | exact wx_va | exact wx_si | exact wx_wk) ?_
          refine am_aload_n (i := 1) dC_replaceArguments_73 rfl rfl ?_
          refine am_iload_n (i := 2) dC_replaceArguments_74 rfl rfl ?_
          refine am_putf' dC_replaceArguments_75 flC_135 (by first | rfl | exact sk8 (by omega) | exact sk9 (by omega) | exact sk10 (by omega) | exact sk11 (by omega)) rfl (fun _ => ⟨rfl, rfl⟩) (by first | exact wx_st | exact wx_mk | exact wx_lv | exact wx_us | exact wx_A | exact wx_P | exact wx_cl | exact wx_pr | exact wx_va | exact wx_si | exact wx_wk) ?_
          refine am_vret (st := []) rfl dC_replaceArguments_78 ?_
          refine k _ ?_
          unfold q_rep
          funext i m
          unfold q_sw q_r3 q_r4
          unfold up2 at *
          grind
      · refine am_if_eq_T (tgt := 78) dC_replaceArguments_46 (by decide) (by decide) ?_
        refine am_vret (st := []) rfl dC_replaceArguments_78 ?_
        refine k _ ?_
        unfold q_rep
        funext i m
        unfold q_sw q_r3 q_r4
        unfold up2 at *
        grind
