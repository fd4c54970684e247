theorem am_cat1 {as : List am_V} (h : as.all (fun v => Nat.beq (am_cat v) 1) = true) : ∀ v ∈ as, am_cat v = 1 := fun v hv => Nat.eq_of_beq_eq_true (List.all_eq_true.mp h v hv)
set_option maxRecDepth 100000 in
set_option maxHeartbeats 4000000 in
theorem cO_takeShape8 {g : am_G} {d : Nat} {Q : Option am_V → am_H → Prop} {Y : Nat → Nat → Nat → am_V} {A P : Nat → Nat → Int32} {st mk lv : Nat → Int32} {cl pr : Nat → Nat → Int32} {us : Nat → Int32} {va si wk : Int32} {v : Nat} {x y : Int32} (hv : v < 28) (k : Q none (hm (xc (up2 (up2 A v 1 x) v 2 y) P st mk lv cl pr us va si wk) Y)) : am_C g mO_takeShape d 0 0 [am_O 8 v, am_I x, am_I y] (hm (xc A P st mk lv cl pr us va si wk) Y) Q := by
  refine am_enter (lv := [some (am_O 8 v), some (am_I x), some (am_I y)]) rfl rfl (am_cat1 rfl) (Nat.le_of_ble_eq_true rfl) ?_
  refine am_aload_n (i := 0) dO_takeShape_0 rfl rfl ?_
  refine am_iload_n (i := 1) dO_takeShape_1 rfl rfl ?_
  refine am_putf' dO_takeShape_2 flO_9 (by first | rfl | exact sk8 (by omega) | exact sk9 (by omega) | exact sk10 (by omega) | exact sk11 (by omega)) rfl (fun _ => ⟨rfl, rfl⟩) (by first | exact wx_st | exact wx_mk | exact wx_lv | exact wx_us | exact wx_A | exact wx_P | exact wx_cl | exact wx_pr | exact wx_va | exact wx_si | exact wx_wk) ?_
  refine am_aload_n (i := 0) dO_takeShape_5 rfl rfl ?_
  refine am_iload_n (i := 2) dO_takeShape_6 rfl rfl ?_
  refine am_putf' dO_takeShape_7 flO_15 (by first | rfl | exact sk8 (by omega) | exact sk9 (by omega) | exact sk10 (by omega) | exact sk11 (by omega)) rfl (fun _ => ⟨rfl, rfl⟩) (by first | exact wx_st | exact wx_mk | exact wx_lv | exact wx_us | exact wx_A | exact wx_P | exact wx_cl | exact wx_pr | exact wx_va | exact wx_si | exact wx_wk) ?_
  refine am_vret (st := []) rfl dO_takeShape_10 ?_
  exact k
set_option maxRecDepth 100000 in
set_option maxHeartbeats 4000000 in
theorem cO_become8 {g : am_G} {d : Nat} {Q : Option am_V → am_H → Prop} {Y : Nat → Nat → Nat → am_V} {A P : Nat → Nat → Int32} {st mk lv : Nat → Int32} {cl pr : Nat → Nat → Int32} {us : Nat → Int32} {va si wk : Int32} {v : Nat} {a b e p q : Int32} (hv : v < 28) (k : Q none (hm (xc (up2 (up2 (up2 (up2 (up2 A v 0 a) v 3 b) v 4 e) v 5 p) v 6 q) P st mk lv cl pr us va si wk) Y)) : am_C g mO_become d 0 0 [am_O 8 v, am_I a, am_I b, am_I e, am_I p, am_I q] (hm (xc A P st mk lv cl pr us va si wk) Y) Q := by
  refine am_enter (lv := [some (am_O 8 v), some (am_I a), some (am_I b), some (am_I e), some (am_I p), some (am_I q)]) rfl rfl (am_cat1 rfl) (Nat.le_of_ble_eq_true rfl) ?_
  refine am_aload_n (i := 0) dO_become_0 rfl rfl ?_
  refine am_iload_n (i := 1) dO_become_1 rfl rfl ?_
  refine am_putf' dO_become_2 flO_18 (by first | rfl | exact sk8 (by omega) | exact sk9 (by omega) | exact sk10 (by omega) | exact sk11 (by omega)) rfl (fun _ => ⟨rfl, rfl⟩) (by first | exact wx_st | exact wx_mk | exact wx_lv | exact wx_us | exact wx_A | exact wx_P | exact wx_cl | exact wx_pr | exact wx_va | exact wx_si | exact wx_wk) ?_
  refine am_aload_n (i := 0) dO_become_5 rfl rfl ?_
  refine am_iload_n (i := 2) dO_become_6 rfl rfl ?_
  refine am_putf' dO_become_7 flO_21 (by first | rfl | exact sk8 (by omega) | exact sk9 (by omega) | exact sk10 (by omega) | exact sk11 (by omega)) rfl (fun _ => ⟨rfl, rfl⟩) (by first | exact wx_st | exact wx_mk | exact wx_lv | exact wx_us | exact wx_A | exact wx_P | exact wx_cl | exact wx_pr | exact wx_va | exact wx_si | exact wx_wk) ?_
  refine am_aload_n (i := 0) dO_become_10 rfl rfl ?_
  refine am_iload_n (i := 3) dO_become_11 rfl rfl ?_
  refine am_putf' dO_become_12 flO_24 (by first | rfl | exact sk8 (by omega) | exact sk9 (by omega) | exact sk10 (by omega) | exact sk11 (by omega)) rfl (fun _ => ⟨rfl, rfl⟩) (by first | exact wx_st | exact wx_mk | exact wx_lv | exact wx_us | exact wx_A | exact wx_P | exact wx_cl | exact wx_pr | exact wx_va | exact wx_si | exact wx_wk) ?_
  refine am_aload_n (i := 0) dO_become_15 rfl rfl ?_
  refine am_iload (i := 4) dO_become_16 rfl ?_
  refine am_putf' dO_become_18 flO_27 (by first | rfl | exact sk8 (by omega) | exact sk9 (by omega) | exact sk10 (by omega) | exact sk11 (by omega)) rfl (fun _ => ⟨rfl, rfl⟩) (by first | exact wx_st | exact wx_mk | exact wx_lv | exact wx_us | exact wx_A | exact wx_P | exact wx_cl | exact wx_pr | exact wx_va | exact wx_si | exact wx_wk) ?_
  refine am_aload_n (i := 0) dO_become_21 rfl rfl ?_
  refine am_iload (i := 5) dO_become_22 rfl ?_
  refine am_putf' dO_become_24 flO_30 (by first | rfl | exact sk8 (by omega) | exact sk9 (by omega) | exact sk10 (by omega) | exact sk11 (by omega)) rfl (fun _ => ⟨rfl, rfl⟩) (by first | exact wx_st | exact wx_mk | exact wx_lv | exact wx_us | exact wx_A | exact wx_P | exact wx_cl | exact wx_pr | exact wx_va | exact wx_si | exact wx_wk) ?_
  refine am_vret (st := []) rfl dO_become_27 ?_
  exact k
set_option maxRecDepth 100000 in
set_option maxHeartbeats 4000000 in
theorem cO_takeShape9 {g : am_G} {d : Nat} {Q : Option am_V → am_H → Prop} {Y : Nat → Nat → Nat → am_V} {A P : Nat → Nat → Int32} {st mk lv : Nat → Int32} {cl pr : Nat → Nat → Int32} {us : Nat → Int32} {va si wk : Int32} {v : Nat} {x y : Int32} (hv : v < 28) (k : Q none (hm (xc A (up2 (up2 P v 1 x) v 2 y) st mk lv cl pr us va si wk) Y)) : am_C g mO_takeShape d 0 0 [am_O 9 v, am_I x, am_I y] (hm (xc A P st mk lv cl pr us va si wk) Y) Q := by
  refine am_enter (lv := [some (am_O 9 v), some (am_I x), some (am_I y)]) rfl rfl (am_cat1 rfl) (Nat.le_of_ble_eq_true rfl) ?_
  refine am_aload_n (i := 0) dO_takeShape_0 rfl rfl ?_
  refine am_iload_n (i := 1) dO_takeShape_1 rfl rfl ?_
  refine am_putf' dO_takeShape_2 flO_9 (by first | rfl | exact sk8 (by omega) | exact sk9 (by omega) | exact sk10 (by omega) | exact sk11 (by omega)) rfl (fun _ => ⟨rfl, rfl⟩) (by first | exact wx_st | exact wx_mk | exact wx_lv | exact wx_us | exact wx_A | exact wx_P | exact wx_cl | exact wx_pr | exact wx_va | exact wx_si | exact wx_wk) ?_
  refine am_aload_n (i := 0) dO_takeShape_5 rfl rfl ?_
  refine am_iload_n (i := 2) dO_takeShape_6 rfl rfl ?_
  refine am_putf' dO_takeShape_7 flO_15 (by first | rfl | exact sk8 (by omega) | exact sk9 (by omega) | exact sk10 (by omega) | exact sk11 (by omega)) rfl (fun _ => ⟨rfl, rfl⟩) (by first | exact wx_st | exact wx_mk | exact wx_lv | exact wx_us | exact wx_A | exact wx_P | exact wx_cl | exact wx_pr | exact wx_va | exact wx_si | exact wx_wk) ?_
  refine am_vret (st := []) rfl dO_takeShape_10 ?_
  exact k
set_option maxRecDepth 100000 in
set_option maxHeartbeats 4000000 in
theorem cO_become9 {g : am_G} {d : Nat} {Q : Option am_V → am_H → Prop} {Y : Nat → Nat → Nat → am_V} {A P : Nat → Nat → Int32} {st mk lv : Nat → Int32} {cl pr : Nat → Nat → Int32} {us : Nat → Int32} {va si wk : Int32} {v : Nat} {a b e p q : Int32} (hv : v < 28) (k : Q none (hm (xc A (up2 (up2 (up2 (up2 (up2 P v 0 a) v 3 b) v 4 e) v 5 p) v 6 q) st mk lv cl pr us va si wk) Y)) : am_C g mO_become d 0 0 [am_O 9 v, am_I a, am_I b, am_I e, am_I p, am_I q] (hm (xc A P st mk lv cl pr us va si wk) Y) Q := by
  refine am_enter (lv := [some (am_O 9 v), some (am_I a), some (am_I b), some (am_I e), some (am_I p), some (am_I q)]) rfl rfl (am_cat1 rfl) (Nat.le_of_ble_eq_true rfl) ?_
  refine am_aload_n (i := 0) dO_become_0 rfl rfl ?_
  refine am_iload_n (i := 1) dO_become_1 rfl rfl ?_
  refine am_putf' dO_become_2 flO_18 (by first | rfl | exact sk8 (by omega) | exact sk9 (by omega) | exact sk10 (by omega) | exact sk11 (by omega)) rfl (fun _ => ⟨rfl, rfl⟩) (by first | exact wx_st | exact wx_mk | exact wx_lv | exact wx_us | exact wx_A | exact wx_P | exact wx_cl | exact wx_pr | exact wx_va | exact wx_si | exact wx_wk) ?_
  refine am_aload_n (i := 0) dO_become_5 rfl rfl ?_
  refine am_iload_n (i := 2) dO_become_6 rfl rfl ?_
  refine am_putf' dO_become_7 flO_21 (by first | rfl | exact sk8 (by omega) | exact sk9 (by omega) | exact sk10 (by omega) | exact sk11 (by omega)) rfl (fun _ => ⟨rfl, rfl⟩) (by first | exact wx_st | exact wx_mk | exact wx_lv | exact wx_us | exact wx_A | exact wx_P | exact wx_cl | exact wx_pr | exact wx_va | exact wx_si | exact wx_wk) ?_
  refine am_aload_n (i := 0) dO_become_10 rfl rfl ?_
  refine am_iload_n (i := 3) dO_become_11 rfl rfl ?_
  refine am_putf' dO_become_12 flO_24 (by first | rfl | exact sk8 (by omega) | exact sk9 (by omega) | exact sk10 (by omega) | exact sk11 (by omega)) rfl (fun _ => ⟨rfl, rfl⟩) (by first | exact wx_st | exact wx_mk | exact wx_lv | exact wx_us | exact wx_A | exact wx_P | exact wx_cl | exact wx_pr | exact wx_va | exact wx_si | exact wx_wk) ?_
  refine am_aload_n (i := 0) dO_become_15 rfl rfl ?_
  refine am_iload (i := 4) dO_become_16 rfl ?_
  refine am_putf' dO_become_18 flO_27 (by first | rfl | exact sk8 (by omega) | exact sk9 (by omega) | exact sk10 (by omega) | exact sk11 (by omega)) rfl (fun _ => ⟨rfl, rfl⟩) (by first | exact wx_st | exact wx_mk | exact wx_lv | exact wx_us | exact wx_A | exact wx_P | exact wx_cl | exact wx_pr | exact wx_va | exact wx_si | exact wx_wk) ?_
  refine am_aload_n (i := 0) dO_become_21 rfl rfl ?_
  refine am_iload (i := 5) dO_become_22 rfl ?_
  refine am_putf' dO_become_24 flO_30 (by first | rfl | exact sk8 (by omega) | exact sk9 (by omega) | exact sk10 (by omega) | exact sk11 (by omega)) rfl (fun _ => ⟨rfl, rfl⟩) (by first | exact wx_st | exact wx_mk | exact wx_lv | exact wx_us | exact wx_A | exact wx_P | exact wx_cl | exact wx_pr | exact wx_va | exact wx_si | exact wx_wk) ?_
  refine am_vret (st := []) rfl dO_become_27 ?_
  exact k
set_option maxRecDepth 100000 in
set_option maxHeartbeats 4000000 in
theorem cO_becomeSplat {g : am_G} {d : Nat} {Q : Option am_V → am_H → Prop} {Y : Nat → Nat → Nat → am_V} {A P : Nat → Nat → Int32} {st mk lv : Nat → Int32} {cl pr : Nat → Nat → Int32} {us : Nat → Int32} {va si wk : Int32} {v : Nat} {x : Int32} (hv : v < 28) (k : Q none (hm (xc A (up2 (up2 (up2 (up2 (up2 P v 0 1) v 3 (-1)) v 4 (-1)) v 5 x) v 6 0) st mk lv cl pr us va si wk) Y)) : am_C g mO_becomeSplat (d + 1) 0 0 [am_O 9 v, am_I x] (hm (xc A P st mk lv cl pr us va si wk) Y) Q := by
  refine am_enter (lv := [some (am_O 9 v), some (am_I x)]) rfl rfl (am_cat1 rfl) (Nat.le_of_ble_eq_true rfl) ?_
  refine am_aload_n (i := 0) dO_becomeSplat_0 rfl rfl ?_
  refine am_iconst (v := 1) dO_becomeSplat_1 (by decide) ?_
  refine am_iconst (v := (-1)) dO_becomeSplat_2 (by decide) ?_
  refine am_iconst (v := (-1)) dO_becomeSplat_3 (by decide) ?_
  refine am_iload_n (i := 1) dO_becomeSplat_4 rfl rfl ?_
  refine am_iconst (v := 0) dO_becomeSplat_5 (by decide) ?_
  refine am_callV (ac' := 0) (as' := 0) (xs := [_, _, _, _, _]) dO_becomeSplat_6 lkO_33 (by first | rfl | exact sk8 (by omega) | exact sk9 (by omega) | exact sk10 (by omega) | exact sk11 (by omega)) rfl rfl rfl rfl (Nat.le_of_ble_eq_true rfl) rfl rfl (cO_become9 hv ?_)
  refine am_vret (st := []) rfl dO_becomeSplat_9 ?_
  exact k
set_option maxRecDepth 100000 in
set_option maxHeartbeats 4000000 in
theorem cO_isSplatOf {g : am_G} {d : Nat} {Q : Option am_V → am_H → Prop} {Y : Nat → Nat → Nat → am_V} {A P : Nat → Nat → Int32} {st mk lv : Nat → Int32} {cl pr : Nat → Nat → Int32} {us : Nat → Int32} {va si wk : Int32} {v : Nat} {x : Int32} (hv : v < 28) (h1 : (P v 0 = 1 ∧ P v 5 = x) → Q (some (am_I 1)) (hm (xc A P st mk lv cl pr us va si wk) Y)) (h0 : ¬ (P v 0 = 1 ∧ P v 5 = x) → Q (some (am_I 0)) (hm (xc A P st mk lv cl pr us va si wk) Y)) : am_C g mO_isSplatOf d 0 0 [am_O 9 v, am_I x] (hm (xc A P st mk lv cl pr us va si wk) Y) Q := by
  refine am_enter (lv := [some (am_O 9 v), some (am_I x)]) rfl rfl (am_cat1 rfl) (Nat.le_of_ble_eq_true rfl) ?_
  refine am_aload_n (i := 0) dO_isSplatOf_0 rfl rfl ?_
  refine am_getf dO_isSplatOf_1 flO_18 (by first | rfl | exact sk8 (by omega) | exact sk9 (by omega) | exact sk10 (by omega) | exact sk11 (by omega)) rfl ?_
  refine am_iconst (v := 1) dO_isSplatOf_4 (by decide) ?_
  refine am_icmp_ne (tgt := 20) dO_isSplatOf_5 (by decide) (fun c5 => ?_) (fun c5 => ?_)
  · refine am_iconst (v := 0) dO_isSplatOf_20 (by decide) ?_
    refine am_iret (st := []) rfl rfl dO_isSplatOf_21 ?_
    first | exact h1 (by grind) | exact h0 (by grind)
  · refine am_aload_n (i := 0) dO_isSplatOf_8 rfl rfl ?_
    refine am_getf dO_isSplatOf_9 flO_27 (by first | rfl | exact sk8 (by omega) | exact sk9 (by omega) | exact sk10 (by omega) | exact sk11 (by omega)) rfl ?_
    refine am_iload_n (i := 1) dO_isSplatOf_12 rfl rfl ?_
    refine am_icmp_ne (tgt := 20) dO_isSplatOf_13 (by decide) (fun c13 => ?_) (fun c13 => ?_)
    · refine am_iconst (v := 0) dO_isSplatOf_20 (by decide) ?_
      refine am_iret (st := []) rfl rfl dO_isSplatOf_21 ?_
      first | exact h1 (by grind) | exact h0 (by grind)
    · refine am_iconst (v := 1) dO_isSplatOf_16 (by decide) ?_
      refine am_goto (tgt := 21) dO_isSplatOf_17 (by decide) ?_
      refine am_iret (st := []) rfl rfl dO_isSplatOf_21 ?_
      first | exact h1 (by grind) | exact h0 (by grind)
set_option maxRecDepth 100000 in
set_option maxHeartbeats 4000000 in
theorem cO_takesPairs {g : am_G} {d : Nat} {Q : Option am_V → am_H → Prop} {Y : Nat → Nat → Nat → am_V} {A P : Nat → Nat → Int32} {st mk lv : Nat → Int32} {cl pr : Nat → Nat → Int32} {us : Nat → Int32} {va si wk : Int32} {v : Nat} (hv : v < 28) (h1 : (P v 0 = 3 ∨ P v 0 = 4 ∨ P v 0 = 5) → Q (some (am_I 1)) (hm (xc A P st mk lv cl pr us va si wk) Y)) (h0 : ¬ (P v 0 = 3 ∨ P v 0 = 4 ∨ P v 0 = 5) → Q (some (am_I 0)) (hm (xc A P st mk lv cl pr us va si wk) Y)) : am_C g mO_takesPairs d 0 0 [am_O 9 v] (hm (xc A P st mk lv cl pr us va si wk) Y) Q := by
  refine am_enter (lv := [some (am_O 9 v)]) rfl rfl (am_cat1 rfl) (Nat.le_of_ble_eq_true rfl) ?_
  refine am_aload_n (i := 0) dO_takesPairs_0 rfl rfl ?_
  refine am_getf dO_takesPairs_1 flO_18 (by first | rfl | exact sk8 (by omega) | exact sk9 (by omega) | exact sk10 (by omega) | exact sk11 (by omega)) rfl ?_
  refine am_iconst (v := 3) dO_takesPairs_4 (by decide) ?_
  refine am_icmp_eq (tgt := 24) dO_takesPairs_5 (by decide) (fun c5 => ?_) (fun c5 => ?_)
  · refine am_iconst (v := 1) dO_takesPairs_24 (by decide) ?_
    refine am_goto (tgt := 29) dO_takesPairs_25 (by decide) ?_
    refine am_iret (st := []) rfl rfl dO_takesPairs_29 ?_
    first | exact h1 (by grind) | exact h0 (by grind)
  · refine am_aload_n (i := 0) dO_takesPairs_8 rfl rfl ?_
    refine am_getf dO_takesPairs_9 flO_18 (by first | rfl | exact sk8 (by omega) | exact sk9 (by omega) | exact sk10 (by omega) | exact sk11 (by omega)) rfl ?_
    refine am_iconst (v := 4) dO_takesPairs_12 (by decide) ?_
    refine am_icmp_eq (tgt := 24) dO_takesPairs_13 (by decide) (fun c13 => ?_) (fun c13 => ?_)
    · refine am_iconst (v := 1) dO_takesPairs_24 (by decide) ?_
      refine am_goto (tgt := 29) dO_takesPairs_25 (by decide) ?_
      refine am_iret (st := []) rfl rfl dO_takesPairs_29 ?_
      first | exact h1 (by grind) | exact h0 (by grind)
    · refine am_aload_n (i := 0) dO_takesPairs_16 rfl rfl ?_
      refine am_getf dO_takesPairs_17 flO_18 (by first | rfl | exact sk8 (by omega) | exact sk9 (by omega) | exact sk10 (by omega) | exact sk11 (by omega)) rfl ?_
      refine am_iconst (v := 5) dO_takesPairs_20 (by decide) ?_
      refine am_icmp_ne (tgt := 28) dO_takesPairs_21 (by decide) (fun c21 => ?_) (fun c21 => ?_)
      · refine am_iconst (v := 0) dO_takesPairs_28 (by decide) ?_
        refine am_iret (st := []) rfl rfl dO_takesPairs_29 ?_
        first | exact h1 (by grind) | exact h0 (by grind)
      · refine am_iconst (v := 1) dO_takesPairs_24 (by decide) ?_
        refine am_goto (tgt := 29) dO_takesPairs_25 (by decide) ?_
        refine am_iret (st := []) rfl rfl dO_takesPairs_29 ?_
        first | exact h1 (by grind) | exact h0 (by grind)
set_option maxRecDepth 100000 in
set_option maxHeartbeats 4000000 in
theorem cO_isReshaping {g : am_G} {d : Nat} {Q : Option am_V → am_H → Prop} {Y : Nat → Nat → Nat → am_V} {A P : Nat → Nat → Int32} {st mk lv : Nat → Int32} {cl pr : Nat → Nat → Int32} {us : Nat → Int32} {va si wk : Int32} {v : Nat} (hv : v < 28) (h1 : (P v 0 = 10 ∨ P v 0 = 11 ∨ P v 0 = 12) → Q (some (am_I 1)) (hm (xc A P st mk lv cl pr us va si wk) Y)) (h0 : ¬ (P v 0 = 10 ∨ P v 0 = 11 ∨ P v 0 = 12) → Q (some (am_I 0)) (hm (xc A P st mk lv cl pr us va si wk) Y)) : am_C g mO_isReshaping d 0 0 [am_O 9 v] (hm (xc A P st mk lv cl pr us va si wk) Y) Q := by
  refine am_enter (lv := [some (am_O 9 v)]) rfl rfl (am_cat1 rfl) (Nat.le_of_ble_eq_true rfl) ?_
  refine am_aload_n (i := 0) dO_isReshaping_0 rfl rfl ?_
  refine am_getf dO_isReshaping_1 flO_18 (by first | rfl | exact sk8 (by omega) | exact sk9 (by omega) | exact sk10 (by omega) | exact sk11 (by omega)) rfl ?_
  refine am_bipush (v := 10) dO_isReshaping_4 (by decide) ?_
  refine am_icmp_eq (tgt := 27) dO_isReshaping_6 (by decide) (fun c6 => ?_) (fun c6 => ?_)
  · refine am_iconst (v := 1) dO_isReshaping_27 (by decide) ?_
    refine am_goto (tgt := 32) dO_isReshaping_28 (by decide) ?_
    refine am_iret (st := []) rfl rfl dO_isReshaping_32 ?_
    first | exact h1 (by grind) | exact h0 (by grind)
  · refine am_aload_n (i := 0) dO_isReshaping_9 rfl rfl ?_
    refine am_getf dO_isReshaping_10 flO_18 (by first | rfl | exact sk8 (by omega) | exact sk9 (by omega) | exact sk10 (by omega) | exact sk11 (by omega)) rfl ?_
    refine am_bipush (v := 11) dO_isReshaping_13 (by decide) ?_
    refine am_icmp_eq (tgt := 27) dO_isReshaping_15 (by decide) (fun c15 => ?_) (fun c15 => ?_)
    · refine am_iconst (v := 1) dO_isReshaping_27 (by decide) ?_
      refine am_goto (tgt := 32) dO_isReshaping_28 (by decide) ?_
      refine am_iret (st := []) rfl rfl dO_isReshaping_32 ?_
      first | exact h1 (by grind) | exact h0 (by grind)
    · refine am_aload_n (i := 0) dO_isReshaping_18 rfl rfl ?_
      refine am_getf dO_isReshaping_19 flO_18 (by first | rfl | exact sk8 (by omega) | exact sk9 (by omega) | exact sk10 (by omega) | exact sk11 (by omega)) rfl ?_
      refine am_bipush (v := 12) dO_isReshaping_22 (by decide) ?_
      refine am_icmp_ne (tgt := 31) dO_isReshaping_24 (by decide) (fun c24 => ?_) (fun c24 => ?_)
      · refine am_iconst (v := 0) dO_isReshaping_31 (by decide) ?_
        refine am_iret (st := []) rfl rfl dO_isReshaping_32 ?_
        first | exact h1 (by grind) | exact h0 (by grind)
      · refine am_iconst (v := 1) dO_isReshaping_27 (by decide) ?_
        refine am_goto (tgt := 32) dO_isReshaping_28 (by decide) ?_
        refine am_iret (st := []) rfl rfl dO_isReshaping_32 ?_
        first | exact h1 (by grind) | exact h0 (by grind)
set_option maxRecDepth 100000 in
set_option maxHeartbeats 4000000 in
theorem cO_hasShapeOf8 {g : am_G} {d : Nat} {Q : Option am_V → am_H → Prop} {Y : Nat → Nat → Nat → am_V} {A P : Nat → Nat → Int32} {st mk lv : Nat → Int32} {cl pr : Nat → Nat → Int32} {us : Nat → Int32} {va si wk : Int32} {v u : Nat} (hv : v < 28) (hu : u < 28) (h1 : (A v 1 = A u 1 ∧ A v 2 = A u 2) → Q (some (am_I 1)) (hm (xc A P st mk lv cl pr us va si wk) Y)) (h0 : ¬ (A v 1 = A u 1 ∧ A v 2 = A u 2) → Q (some (am_I 0)) (hm (xc A P st mk lv cl pr us va si wk) Y)) : am_C g mO_hasShapeOf d 0 0 [am_O 8 v, am_O 8 u] (hm (xc A P st mk lv cl pr us va si wk) Y) Q := by
  refine am_enter (lv := [some (am_O 8 v), some (am_O 8 u)]) rfl rfl (am_cat1 rfl) (Nat.le_of_ble_eq_true rfl) ?_
  refine am_aload_n (i := 0) dO_hasShapeOf_0 rfl rfl ?_
  refine am_getf dO_hasShapeOf_1 flO_9 (by first | rfl | exact sk8 (by omega) | exact sk9 (by omega) | exact sk10 (by omega) | exact sk11 (by omega)) rfl ?_
  refine am_aload_n (i := 1) dO_hasShapeOf_4 rfl rfl ?_
  refine am_getf dO_hasShapeOf_5 flO_9 (by first | rfl | exact sk8 (by omega) | exact sk9 (by omega) | exact sk10 (by omega) | exact sk11 (by omega)) rfl ?_
  refine am_icmp_ne (tgt := 26) dO_hasShapeOf_8 (by decide) (fun c8 => ?_) (fun c8 => ?_)
  · refine am_iconst (v := 0) dO_hasShapeOf_26 (by decide) ?_
    refine am_iret (st := []) rfl rfl dO_hasShapeOf_27 ?_
    first | exact h1 (by grind) | exact h0 (by grind)
  · refine am_aload_n (i := 0) dO_hasShapeOf_11 rfl rfl ?_
    refine am_getf dO_hasShapeOf_12 flO_15 (by first | rfl | exact sk8 (by omega) | exact sk9 (by omega) | exact sk10 (by omega) | exact sk11 (by omega)) rfl ?_
    refine am_aload_n (i := 1) dO_hasShapeOf_15 rfl rfl ?_
    refine am_getf dO_hasShapeOf_16 flO_15 (by first | rfl | exact sk8 (by omega) | exact sk9 (by omega) | exact sk10 (by omega) | exact sk11 (by omega)) rfl ?_
    refine am_icmp_ne (tgt := 26) dO_hasShapeOf_19 (by decide) (fun c19 => ?_) (fun c19 => ?_)
    · refine am_iconst (v := 0) dO_hasShapeOf_26 (by decide) ?_
      refine am_iret (st := []) rfl rfl dO_hasShapeOf_27 ?_
      first | exact h1 (by grind) | exact h0 (by grind)
    · refine am_iconst (v := 1) dO_hasShapeOf_22 (by decide) ?_
      refine am_goto (tgt := 27) dO_hasShapeOf_23 (by decide) ?_
      refine am_iret (st := []) rfl rfl dO_hasShapeOf_27 ?_
      first | exact h1 (by grind) | exact h0 (by grind)
set_option maxRecDepth 100000 in
set_option maxHeartbeats 4000000 in
theorem cO_hasShapeOf9 {g : am_G} {d : Nat} {Q : Option am_V → am_H → Prop} {Y : Nat → Nat → Nat → am_V} {A P : Nat → Nat → Int32} {st mk lv : Nat → Int32} {cl pr : Nat → Nat → Int32} {us : Nat → Int32} {va si wk : Int32} {v u : Nat} (hv : v < 28) (hu : u < 28) (h1 : (P v 1 = P u 1 ∧ P v 2 = P u 2) → Q (some (am_I 1)) (hm (xc A P st mk lv cl pr us va si wk) Y)) (h0 : ¬ (P v 1 = P u 1 ∧ P v 2 = P u 2) → Q (some (am_I 0)) (hm (xc A P st mk lv cl pr us va si wk) Y)) : am_C g mO_hasShapeOf d 0 0 [am_O 9 v, am_O 9 u] (hm (xc A P st mk lv cl pr us va si wk) Y) Q := by
  refine am_enter (lv := [some (am_O 9 v), some (am_O 9 u)]) rfl rfl (am_cat1 rfl) (Nat.le_of_ble_eq_true rfl) ?_
  refine am_aload_n (i := 0) dO_hasShapeOf_0 rfl rfl ?_
  refine am_getf dO_hasShapeOf_1 flO_9 (by first | rfl | exact sk8 (by omega) | exact sk9 (by omega) | exact sk10 (by omega) | exact sk11 (by omega)) rfl ?_
  refine am_aload_n (i := 1) dO_hasShapeOf_4 rfl rfl ?_
  refine am_getf dO_hasShapeOf_5 flO_9 (by first | rfl | exact sk8 (by omega) | exact sk9 (by omega) | exact sk10 (by omega) | exact sk11 (by omega)) rfl ?_
  refine am_icmp_ne (tgt := 26) dO_hasShapeOf_8 (by decide) (fun c8 => ?_) (fun c8 => ?_)
  · refine am_iconst (v := 0) dO_hasShapeOf_26 (by decide) ?_
    refine am_iret (st := []) rfl rfl dO_hasShapeOf_27 ?_
    first | exact h1 (by grind) | exact h0 (by grind)
  · refine am_aload_n (i := 0) dO_hasShapeOf_11 rfl rfl ?_
    refine am_getf dO_hasShapeOf_12 flO_15 (by first | rfl | exact sk8 (by omega) | exact sk9 (by omega) | exact sk10 (by omega) | exact sk11 (by omega)) rfl ?_
    refine am_aload_n (i := 1) dO_hasShapeOf_15 rfl rfl ?_
    refine am_getf dO_hasShapeOf_16 flO_15 (by first | rfl | exact sk8 (by omega) | exact sk9 (by omega) | exact sk10 (by omega) | exact sk11 (by omega)) rfl ?_
    refine am_icmp_ne (tgt := 26) dO_hasShapeOf_19 (by decide) (fun c19 => ?_) (fun c19 => ?_)
    · refine am_iconst (v := 0) dO_hasShapeOf_26 (by decide) ?_
      refine am_iret (st := []) rfl rfl dO_hasShapeOf_27 ?_
      first | exact h1 (by grind) | exact h0 (by grind)
    · refine am_iconst (v := 1) dO_hasShapeOf_22 (by decide) ?_
      refine am_goto (tgt := 27) dO_hasShapeOf_23 (by decide) ?_
      refine am_iret (st := []) rfl rfl dO_hasShapeOf_27 ?_
      first | exact h1 (by grind) | exact h0 (by grind)
set_option maxRecDepth 100000 in
set_option maxHeartbeats 4000000 in
theorem cO_isLike {g : am_G} {d : Nat} {Q : Option am_V → am_H → Prop} {Y : Nat → Nat → Nat → am_V} {A P : Nat → Nat → Int32} {st mk lv : Nat → Int32} {cl pr : Nat → Nat → Int32} {us : Nat → Int32} {va si wk : Int32} {v u : Nat} (hv : v < 28) (hu : u < 28) (h1 : (P v 0 = P u 0 ∧ P v 3 = P u 3 ∧ P v 4 = P u 4 ∧ P v 5 = P u 5 ∧ P v 6 = P u 6 ∧ P v 1 = P u 1 ∧ P v 2 = P u 2) → Q (some (am_I 1)) (hm (xc A P st mk lv cl pr us va si wk) Y)) (h0 : ¬ (P v 0 = P u 0 ∧ P v 3 = P u 3 ∧ P v 4 = P u 4 ∧ P v 5 = P u 5 ∧ P v 6 = P u 6 ∧ P v 1 = P u 1 ∧ P v 2 = P u 2) → Q (some (am_I 0)) (hm (xc A P st mk lv cl pr us va si wk) Y)) : am_C g mO_isLike (d + 1) 0 0 [am_O 9 v, am_O 9 u] (hm (xc A P st mk lv cl pr us va si wk) Y) Q := by
  refine am_enter (lv := [some (am_O 9 v), some (am_O 9 u)]) rfl rfl (am_cat1 rfl) (Nat.le_of_ble_eq_true rfl) ?_
  refine am_aload_n (i := 0) dO_isLike_0 rfl rfl ?_
  refine am_getf dO_isLike_1 flO_18 (by first | rfl | exact sk8 (by omega) | exact sk9 (by omega) | exact sk10 (by omega) | exact sk11 (by omega)) rfl ?_
  refine am_aload_n (i := 1) dO_isLike_4 rfl rfl ?_
  refine am_getf dO_isLike_5 flO_18 (by first | rfl | exact sk8 (by omega) | exact sk9 (by omega) | exact sk10 (by omega) | exact sk11 (by omega)) rfl ?_
  refine am_icmp_ne (tgt := 67) dO_isLike_8 (by decide) (fun c8 => ?_) (fun c8 => ?_)
  · refine am_iconst (v := 0) dO_isLike_67 (by decide) ?_
    refine am_iret (st := []) rfl rfl dO_isLike_68 ?_
    first | exact h1 (by grind) | exact h0 (by grind)
  · refine am_aload_n (i := 0) dO_isLike_11 rfl rfl ?_
    refine am_getf dO_isLike_12 flO_21 (by first | rfl | exact sk8 (by omega) | exact sk9 (by omega) | exact sk10 (by omega) | exact sk11 (by omega)) rfl ?_
    refine am_aload_n (i := 1) dO_isLike_15 rfl rfl ?_
    refine am_getf dO_isLike_16 flO_21 (by first | rfl | exact sk8 (by omega) | exact sk9 (by omega) | exact sk10 (by omega) | exact sk11 (by omega)) rfl ?_
    refine am_icmp_ne (tgt := 67) dO_isLike_19 (by decide) (fun c19 => ?_) (fun c19 => ?_)
    · refine am_iconst (v := 0) dO_isLike_67 (by decide) ?_
      refine am_iret (st := []) rfl rfl dO_isLike_68 ?_
      first | exact h1 (by grind) | exact h0 (by grind)
    · refine am_aload_n (i := 0) dO_isLike_22 rfl rfl ?_
      refine am_getf dO_isLike_23 flO_24 (by first | rfl | exact sk8 (by omega) | exact sk9 (by omega) | exact sk10 (by omega) | exact sk11 (by omega)) rfl ?_
      refine am_aload_n (i := 1) dO_isLike_26 rfl rfl ?_
      refine am_getf dO_isLike_27 flO_24 (by first | rfl | exact sk8 (by omega) | exact sk9 (by omega) | exact sk10 (by omega) | exact sk11 (by omega)) rfl ?_
      refine am_icmp_ne (tgt := 67) dO_isLike_30 (by decide) (fun c30 => ?_) (fun c30 => ?_)
      · refine am_iconst (v := 0) dO_isLike_67 (by decide) ?_
        refine am_iret (st := []) rfl rfl dO_isLike_68 ?_
        first | exact h1 (by grind) | exact h0 (by grind)
      · refine am_aload_n (i := 0) dO_isLike_33 rfl rfl ?_
        refine am_getf dO_isLike_34 flO_27 (by first | rfl | exact sk8 (by omega) | exact sk9 (by omega) | exact sk10 (by omega) | exact sk11 (by omega)) rfl ?_
        refine am_aload_n (i := 1) dO_isLike_37 rfl rfl ?_
        refine am_getf dO_isLike_38 flO_27 (by first | rfl | exact sk8 (by omega) | exact sk9 (by omega) | exact sk10 (by omega) | exact sk11 (by omega)) rfl ?_
        refine am_icmp_ne (tgt := 67) dO_isLike_41 (by decide) (fun c41 => ?_) (fun c41 => ?_)
        · refine am_iconst (v := 0) dO_isLike_67 (by decide) ?_
          refine am_iret (st := []) rfl rfl dO_isLike_68 ?_
          first | exact h1 (by grind) | exact h0 (by grind)
        · refine am_aload_n (i := 0) dO_isLike_44 rfl rfl ?_
          refine am_getf dO_isLike_45 flO_30 (by first | rfl | exact sk8 (by omega) | exact sk9 (by omega) | exact sk10 (by omega) | exact sk11 (by omega)) rfl ?_
          refine am_aload_n (i := 1) dO_isLike_48 rfl rfl ?_
          refine am_getf dO_isLike_49 flO_30 (by first | rfl | exact sk8 (by omega) | exact sk9 (by omega) | exact sk10 (by omega) | exact sk11 (by omega)) rfl ?_
          refine am_icmp_ne (tgt := 67) dO_isLike_52 (by decide) (fun c52 => ?_) (fun c52 => ?_)
          · refine am_iconst (v := 0) dO_isLike_67 (by decide) ?_
            refine am_iret (st := []) rfl rfl dO_isLike_68 ?_
            first | exact h1 (by grind) | exact h0 (by grind)
          · refine am_aload_n (i := 0) dO_isLike_55 rfl rfl ?_
            refine am_aload_n (i := 1) dO_isLike_56 rfl rfl ?_
            refine am_callV (ac' := 0) (as' := 0) (xs := [_]) dO_isLike_57 lkO_41 (by first | rfl | exact sk8 (by omega) | exact sk9 (by omega) | exact sk10 (by omega) | exact sk11 (by omega)) rfl rfl rfl rfl (Nat.le_of_ble_eq_true rfl) rfl rfl (cO_hasShapeOf9 hv hu (fun cs => ?_) (fun cs => ?_))
            · refine am_if_eq_F (tgt := 67) dO_isLike_60 (by decide) (by decide) ?_
              refine am_iconst (v := 1) dO_isLike_63 (by decide) ?_
              refine am_goto (tgt := 68) dO_isLike_64 (by decide) ?_
              refine am_iret (st := []) rfl rfl dO_isLike_68 ?_
              first | exact h1 (by grind) | exact h0 (by grind)
            · refine am_if_eq_T (tgt := 67) dO_isLike_60 (by decide) (by decide) ?_
              refine am_iconst (v := 0) dO_isLike_67 (by decide) ?_
              refine am_iret (st := []) rfl rfl dO_isLike_68 ?_
              first | exact h1 (by grind) | exact h0 (by grind)
