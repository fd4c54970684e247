/-! ===== live values, undoing: pure ===== -/
def q_fl0 (n : Nat) (lv : Nat → Int32) : Nat → Int32 := fun u => if u < n then 0 else lv u
def q_fl1 (mk st lv : Nat → Int32) : Nat → Nat → Int32
  | 0 => lv
  | i + 1 => if mk i = 0 then q_fl1 mk st lv i else upd (q_fl1 mk st lv i) (ix (st i)) 1
def q_mkl (l : Nat → Int32) (x : Int32) : Nat → Int32 := if x = -1 then l else upd l (ix x) 1
def q_fl2 (P : Nat → Nat → Int32) : Nat → (Nat → Int32) → (Nat → Int32)
  | 0, l => l
  | v + 1, l => q_fl2 P v (if l v = 0 then l else q_mkl (q_mkl l (P v 3)) (P v 4))
def q_live (n : Nat) (mk st : Nat → Int32) (P : Nat → Nat → Int32) (lv : Nat → Int32) : Nat → Int32 := q_fl2 P n (q_fl1 mk st (q_fl0 n lv) n)
def q_cp (A P : Nat → Nat → Int32) (v : Nat) : Nat → Nat → Int32 := fun i k => if i = v ∧ k < 7 then A v k else P i k
def q_cpn (n : Nat) (A P : Nat → Nat → Int32) : Nat → Nat → Int32 := fun i k => if i < n ∧ k < 7 then A i k else P i k
def q_idn (n : Nat) (st : Nat → Int32) : Nat → Int32 := fun i => if i < n then nI i else st i
theorem nI_dec (x : Int32) : x + Int32.ofInt (-1) = x - 1 := by rw [Int32.sub_eq_add_neg]; rfl
theorem q_ixs {st : Nat → Int32} {i n : Nat} (h : ∃ j, j < n ∧ st i = nI j) (hn : n ≤ 28) : ix (st i) < n ∧ st i = nI (ix (st i)) := by
  obtain ⟨j, hj, e⟩ := h
  rw [e, ix_nI (by omega)]
  exact ⟨hj, rfl⟩
set_option maxRecDepth 100000 in
set_option maxHeartbeats 4000000 in
theorem cO_copyFrom {g : am_G} {d : Nat} {Q : Option am_V → am_H → Prop} {Y : Nat → Nat → Nat → am_V} {A P : Nat → Nat → Int32} {st mk lv : Nat → Int32} {cl pr : Nat → Nat → Int32} {us : Nat → Int32} {va si wk : Int32} {v : Nat} (hv : v < 28) (k : ∀ T, T = q_cp A P v → Q none (hm (xc A T st mk lv cl pr us va si wk) Y)) : am_C g mO_copyFrom (d + 1) 0 0 [am_O 9 v, am_O 8 v] (hm (xc A P st mk lv cl pr us va si wk) Y) Q := by
  refine am_enter (lv := [some (am_O 9 v), some (am_O 8 v)]) rfl rfl (am_cat1 rfl) (Nat.le_of_ble_eq_true rfl) ?_
  refine am_aload_n (i := 0) dO_copyFrom_0 rfl rfl ?_
  refine am_aload_n (i := 1) dO_copyFrom_1 rfl rfl ?_
  refine am_getf dO_copyFrom_2 flO_9 (by first | rfl | exact sk8 (by omega) | exact sk9 (by omega) | exact sk10 (by omega) | exact sk11 (by omega)) rfl ?_
  refine am_aload_n (i := 1) dO_copyFrom_5 rfl rfl ?_
  refine am_getf dO_copyFrom_6 flO_15 (by first | rfl | exact sk8 (by omega) | exact sk9 (by omega) | exact sk10 (by omega) | exact sk11 (by omega)) rfl ?_
  refine am_callV (ac' := 0) (as' := 0) (xs := [_, _]) dO_copyFrom_9 lkO_37 (by first | rfl | exact sk8 (by omega) | exact sk9 (by omega) | exact sk10 (by omega) | exact sk11 (by omega)) rfl rfl rfl rfl (Nat.le_of_ble_eq_true rfl) rfl rfl (cO_takeShape9 hv ?_)
  refine am_aload_n (i := 0) dO_copyFrom_12 rfl rfl ?_
  refine am_aload_n (i := 1) dO_copyFrom_13 rfl rfl ?_
  refine am_getf dO_copyFrom_14 flO_18 (by first | rfl | exact sk8 (by omega) | exact sk9 (by omega) | exact sk10 (by omega) | exact sk11 (by omega)) rfl ?_
  refine am_aload_n (i := 1) dO_copyFrom_17 rfl rfl ?_
  refine am_getf dO_copyFrom_18 flO_21 (by first | rfl | exact sk8 (by omega) | exact sk9 (by omega) | exact sk10 (by omega) | exact sk11 (by omega)) rfl ?_
  refine am_aload_n (i := 1) dO_copyFrom_21 rfl rfl ?_
  refine am_getf dO_copyFrom_22 flO_24 (by first | rfl | exact sk8 (by omega) | exact sk9 (by omega) | exact sk10 (by omega) | exact sk11 (by omega)) rfl ?_
  refine am_aload_n (i := 1) dO_copyFrom_25 rfl rfl ?_
  refine am_getf dO_copyFrom_26 flO_27 (by first | rfl | exact sk8 (by omega) | exact sk9 (by omega) | exact sk10 (by omega) | exact sk11 (by omega)) rfl ?_
  refine am_aload_n (i := 1) dO_copyFrom_29 rfl rfl ?_
  refine am_getf dO_copyFrom_30 flO_30 (by first | rfl | exact sk8 (by omega) | exact sk9 (by omega) | exact sk10 (by omega) | exact sk11 (by omega)) rfl ?_
  refine am_callV (ac' := 0) (as' := 0) (xs := [_, _, _, _, _]) dO_copyFrom_33 lkO_33 (by first | rfl | exact sk8 (by omega) | exact sk9 (by omega) | exact sk10 (by omega) | exact sk11 (by omega)) rfl rfl rfl rfl (Nat.le_of_ble_eq_true rfl) rfl rfl (cO_become9 hv ?_)
  refine am_vret (st := []) rfl dO_copyFrom_36 ?_
  refine k _ ?_
  funext i m
  unfold q_cp up2
  by_cases hi : i = v
  · subst hi
    match m with
    | 0 => simp
    | 1 => simp
    | 2 => simp
    | 3 => simp
    | 4 => simp
    | 5 => simp
    | 6 => simp
    | m + 7 => simp; intro h; omega
  · simp [hi]
set_option maxRecDepth 100000 in
set_option maxHeartbeats 4000000 in
theorem lpC_find1 {g : am_G} {d : Nat} {Q : Option am_V → am_H → Prop} {Y : Nat → Nat → Nat → am_V} {A P : Nat → Nat → Int32} {st mk lv : Nat → Int32} {cl pr : Nat → Nat → Int32} {us : Nat → Int32} {si wk : Int32} {n : Nat} (hn : n ≤ 28) (K : am_T g mC_findLive (d + 1) 0 0 23 [some (am_O 0 0), some (am_I (nI n))] [] (hm (xc A P st mk (fun u => if u < n then 0 else lv u) cl pr us (nI n) si wk) Y) Q) : ∀ (j i : Nat), i + j = n → am_T g mC_findLive (d + 1) 0 0 2 [some (am_O 0 0), some (am_I (nI i))] [] (hm (xc A P st mk (fun u => if u < i then 0 else lv u) cl pr us (nI n) si wk) Y) Q := by
  intro j
  induction j with
  | zero =>
    intro i hi
    refine am_iload_n (i := 1) dC_findLive_2 rfl rfl ?_
    refine am_aload_n (i := 0) dC_findLive_3 rfl rfl ?_
    refine am_getf dC_findLive_4 flC_40 (by first | rfl | exact sk8 (by omega) | exact sk9 (by omega) | exact sk10 (by omega) | exact sk11 (by omega)) rfl ?_
    refine am_icmp_ge_T (tgt := 23) dC_findLive_7 (by decide) ((nI_le' (by omega) (by omega)).mpr (by omega)) ?_
    have e : i = n := by omega
    subst e
    exact K
  | succ j ih =>
    intro i hi
    refine am_iload_n (i := 1) dC_findLive_2 rfl rfl ?_
    refine am_aload_n (i := 0) dC_findLive_3 rfl rfl ?_
    refine am_getf dC_findLive_4 flC_40 (by first | rfl | exact sk8 (by omega) | exact sk9 (by omega) | exact sk10 (by omega) | exact sk11 (by omega)) rfl ?_
    refine am_icmp_ge_F (tgt := 23) dC_findLive_7 (by decide) (fun q => absurd ((nI_le' (by omega) (by omega)).mp q) (by omega)) ?_
    refine am_aload_n (i := 0) dC_findLive_10 rfl rfl ?_
    refine am_getf dC_findLive_11 flC_26 (by first | rfl | exact sk8 (by omega) | exact sk9 (by omega) | exact sk10 (by omega) | exact sk11 (by omega)) rfl ?_
    refine am_iload_n (i := 1) dC_findLive_14 rfl rfl ?_
    refine am_iconst (v := 0) dC_findLive_15 (by decide) ?_
    refine am_zast' dC_findLive_16 (by first | rfl | exact sk8 (by omega) | exact sk9 (by omega) | exact sk10 (by omega) | exact sk11 (by omega)) rfl (by first | omega | assumption | decide) (by decide) (by decide) rfl (by first | exact wx_st | exact wx_mk | exact wx_lv | exact wx_us | exact wx_A | exact wx_P | exact wx_cl | exact wx_pr | exact wx_va | exact wx_si | exact wx_wk) ?_
    refine am_iinc dC_findLive_17 rfl (by first | exact nI_1 _ | exact pk_m1 _ | rfl) (by decide) ?_
    refine am_goto (tgt := 2) dC_findLive_20 (by decide) ?_
    refine am_hT (h' := (hm (xc A P st mk (fun u => if u < i + 1 then 0 else lv u) cl pr us (nI n) si wk) Y)) ?_ (ih (i + 1) (by omega))
    congr 2
    funext u
    unfold upd
    grind
set_option maxRecDepth 100000 in
set_option maxHeartbeats 4000000 in
theorem lpC_find2 {g : am_G} {d : Nat} {Q : Option am_V → am_H → Prop} {Y : Nat → Nat → Nat → am_V} {A P : Nat → Nat → Int32} {st mk lv : Nat → Int32} {cl pr : Nat → Nat → Int32} {us : Nat → Int32} {si wk : Int32} {n : Nat} (hn : n ≤ 28) (hs : ∀ m, m < n → ∃ j, j < n ∧ st m = nI j) (K : am_T g mC_findLive (d + 1) 0 0 60 [some (am_O 0 0), some (am_I (nI n))] [] (hm (xc A P st mk (q_fl1 mk st lv n) cl pr us (nI n) si wk) Y) Q) : ∀ (j i : Nat), i + j = n → am_T g mC_findLive (d + 1) 0 0 25 [some (am_O 0 0), some (am_I (nI i))] [] (hm (xc A P st mk (q_fl1 mk st lv i) cl pr us (nI n) si wk) Y) Q := by
  intro j
  induction j with
  | zero =>
    intro i hi
    refine am_iload_n (i := 1) dC_findLive_25 rfl rfl ?_
    refine am_aload_n (i := 0) dC_findLive_26 rfl rfl ?_
    refine am_getf dC_findLive_27 flC_40 (by first | rfl | exact sk8 (by omega) | exact sk9 (by omega) | exact sk10 (by omega) | exact sk11 (by omega)) rfl ?_
    refine am_icmp_ge_T (tgt := 60) dC_findLive_30 (by decide) ((nI_le' (by omega) (by omega)).mpr (by omega)) ?_
    have e : i = n := by omega
    subst e
    exact K
  | succ j ih =>
    intro i hi
    refine am_iload_n (i := 1) dC_findLive_25 rfl rfl ?_
    refine am_aload_n (i := 0) dC_findLive_26 rfl rfl ?_
    refine am_getf dC_findLive_27 flC_40 (by first | rfl | exact sk8 (by omega) | exact sk9 (by omega) | exact sk10 (by omega) | exact sk11 (by omega)) rfl ?_
    refine am_icmp_ge_F (tgt := 60) dC_findLive_30 (by decide) (fun q => absurd ((nI_le' (by omega) (by omega)).mp q) (by omega)) ?_
    refine am_aload_n (i := 0) dC_findLive_33 rfl rfl ?_
    refine am_getf dC_findLive_34 flC_22 (by first | rfl | exact sk8 (by omega) | exact sk9 (by omega) | exact sk10 (by omega) | exact sk11 (by omega)) rfl ?_
    refine am_iload_n (i := 1) dC_findLive_37 rfl rfl ?_
    refine am_zald dC_findLive_38 (by first | rfl | exact sk8 (by omega) | exact sk9 (by omega) | exact sk10 (by omega) | exact sk11 (by omega)) rfl (by first | omega | assumption | decide) (by decide) (by decide) rfl ?_
    refine am_if_eq (tgt := 54) dC_findLive_39 (by decide) (fun c39 => ?_) (fun c39 => ?_)
    · refine am_iinc dC_findLive_54 rfl (by first | exact nI_1 _ | exact pk_m1 _ | rfl) (by decide) ?_
      refine am_goto (tgt := 25) dC_findLive_57 (by decide) ?_
      refine am_hT (h' := (hm (xc A P st mk (q_fl1 mk st lv (i + 1)) cl pr us (nI n) si wk) Y)) ?_ (ih (i + 1) (by omega))
      congr 2
      exact (show q_fl1 mk st lv (i + 1) = _ by first | exact if_pos c39 | exact if_neg c39).symm
    · obtain ⟨hj, ej⟩ := q_ixs (hs i (by omega)) hn
      refine am_aload_n (i := 0) dC_findLive_42 rfl rfl ?_
      refine am_getf dC_findLive_43 flC_26 (by first | rfl | exact sk8 (by omega) | exact sk9 (by omega) | exact sk10 (by omega) | exact sk11 (by omega)) rfl ?_
      refine am_aload_n (i := 0) dC_findLive_46 rfl rfl ?_
      refine am_getf dC_findLive_47 flC_18 (by first | rfl | exact sk8 (by omega) | exact sk9 (by omega) | exact sk10 (by omega) | exact sk11 (by omega)) rfl ?_
      refine am_iload_n (i := 1) dC_findLive_50 rfl rfl ?_
      refine am_iald dC_findLive_51 (by first | rfl | exact sk8 (by omega) | exact sk9 (by omega) | exact sk10 (by omega) | exact sk11 (by omega)) rfl (by first | omega | assumption | decide) (by decide) (by decide) rfl ?_
      refine am_iconst (v := 1) dC_findLive_52 (by decide) ?_
      refine am_zast' dC_findLive_53 (by first | rfl | exact sk8 (by omega) | exact sk9 (by omega) | exact sk10 (by omega) | exact sk11 (by omega)) ej (by first | omega | assumption | decide) (by decide) (by decide) rfl (by first | exact wx_st | exact wx_mk | exact wx_lv | exact wx_us | exact wx_A | exact wx_P | exact wx_cl | exact wx_pr | exact wx_va | exact wx_si | exact wx_wk) ?_
      refine am_iinc dC_findLive_54 rfl (by first | exact nI_1 _ | exact pk_m1 _ | rfl) (by decide) ?_
      refine am_goto (tgt := 25) dC_findLive_57 (by decide) ?_
      refine am_hT (h' := (hm (xc A P st mk (q_fl1 mk st lv (i + 1)) cl pr us (nI n) si wk) Y)) ?_ (ih (i + 1) (by omega))
      congr 2
      exact (show q_fl1 mk st lv (i + 1) = _ by first | exact if_pos c39 | exact if_neg c39).symm
set_option maxRecDepth 100000 in
set_option maxHeartbeats 4000000 in
theorem lpC_find3 {g : am_G} {d : Nat} {Q : Option am_V → am_H → Prop} {Y : Nat → Nat → Nat → am_V} {A P : Nat → Nat → Int32} {st mk : Nat → Int32} {cl pr : Nat → Nat → Int32} {us : Nat → Int32} {si wk : Int32} {n : Nat} (hn : n ≤ 28) (hP : ∀ m, m < n → q_arg (P m 3) m ∧ q_arg (P m 4) m) : ∀ (i : Nat) (lv : Nat → Int32), i ≤ n → ∀ x : Int32, x = nI i - 1 → (∀ l, l = q_fl2 P i lv → Q none (hm (xc A P st mk l cl pr us (nI n) si wk) Y)) → am_T g mC_findLive (d + 1) 0 0 67 [some (am_O 0 0), some (am_I (x))] [] (hm (xc A P st mk lv cl pr us (nI n) si wk) Y) Q := by
  intro i
  induction i with
  | zero =>
    intro lv hi x hx K
    refine am_iload_n (i := 1) dC_findLive_67 rfl rfl ?_
    refine am_if_lt_T (tgt := 112) dC_findLive_68 (by decide) (by rw [hx]; decide) ?_
    refine am_vret (st := []) rfl dC_findLive_112 ?_
    exact K lv rfl
  | succ i ih =>
    intro lv hi x hx K
    have hxi : x = nI i := by rw [hx, nI_pred]
    subst hxi
    refine am_iload_n (i := 1) dC_findLive_67 rfl rfl ?_
    refine am_if_lt_F (tgt := 112) dC_findLive_68 (by decide) (by rw [hx, nI_pred]; exact nI_pos (by omega)) ?_
    refine am_aload_n (i := 0) dC_findLive_71 rfl rfl ?_
    refine am_getf dC_findLive_72 flC_26 (by first | rfl | exact sk8 (by omega) | exact sk9 (by omega) | exact sk10 (by omega) | exact sk11 (by omega)) rfl ?_
    
    refine am_iload_n (i := 1) dC_findLive_75 rfl rfl ?_
    refine am_zald dC_findLive_76 (by first | rfl | exact sk8 (by omega) | exact sk9 (by omega) | exact sk10 (by omega) | exact sk11 (by omega)) rfl (by first | omega | assumption | decide) (by decide) (by decide) rfl ?_
    refine am_if_eq (tgt := 106) dC_findLive_77 (by decide) (fun c77 => ?_) (fun c77 => ?_)
    · refine am_iinc dC_findLive_106 rfl (nI_dec _) (by decide) ?_
      refine am_goto (tgt := 67) dC_findLive_109 (by decide) ?_
      refine ih _ (by omega) _ rfl (fun l hl => K l ?_)
      rw [hl]
      show _ = q_fl2 P i (if lv i = 0 then lv else q_mkl (q_mkl lv (P i 3)) (P i 4))
      first
        | (rw [if_pos c77]; done)
        | (rw [if_neg c77, e2, e1]; rfl)
    · refine am_aload_n (i := 0) dC_findLive_80 rfl rfl ?_
      refine am_aload_n (i := 0) dC_findLive_81 rfl rfl ?_
      refine am_getf dC_findLive_82 flC_15 (by first | rfl | exact sk8 (by omega) | exact sk9 (by omega) | exact sk10 (by omega) | exact sk11 (by omega)) rfl ?_
      refine am_iload_n (i := 1) dC_findLive_85 rfl rfl ?_
      refine am_aald dC_findLive_86 (by first | rfl | exact sk8 (by omega) | exact sk9 (by omega) | exact sk10 (by omega) | exact sk11 (by omega)) rfl (by first | omega | assumption | decide) (by decide) (by decide) rfl rfl ?_
      refine am_getf dC_findLive_87 flC_132 (by first | rfl | exact sk8 (by omega) | exact sk9 (by omega) | exact sk10 (by omega) | exact sk11 (by omega)) rfl ?_
      refine am_callV (ac' := 0) (as' := 0) (xs := [_]) dC_findLive_90 lkC_158 (by first | rfl | exact sk8 (by omega) | exact sk9 (by omega) | exact sk10 (by omega) | exact sk11 (by omega)) rfl rfl rfl rfl (Nat.le_of_ble_eq_true rfl) rfl rfl (cC_makeLive (v := i) (by omega) (hP i (by omega)).1 (fun l1 e1 => ?_))
      refine am_aload_n (i := 0) dC_findLive_93 rfl rfl ?_
      refine am_aload_n (i := 0) dC_findLive_94 rfl rfl ?_
      refine am_getf dC_findLive_95 flC_15 (by first | rfl | exact sk8 (by omega) | exact sk9 (by omega) | exact sk10 (by omega) | exact sk11 (by omega)) rfl ?_
      refine am_iload_n (i := 1) dC_findLive_98 rfl rfl ?_
      refine am_aald dC_findLive_99 (by first | rfl | exact sk8 (by omega) | exact sk9 (by omega) | exact sk10 (by omega) | exact sk11 (by omega)) rfl (by first | omega | assumption | decide) (by decide) (by decide) rfl rfl ?_
      refine am_getf dC_findLive_100 flC_135 (by first | rfl | exact sk8 (by omega) | exact sk9 (by omega) | exact sk10 (by omega) | exact sk11 (by omega)) rfl ?_
      refine am_callV (ac' := 0) (as' := 0) (xs := [_]) dC_findLive_103 lkC_158 (by first | rfl | exact sk8 (by omega) | exact sk9 (by omega) | exact sk10 (by omega) | exact sk11 (by omega)) rfl rfl rfl rfl (Nat.le_of_ble_eq_true rfl) rfl rfl (cC_makeLive (v := i) (by omega) (hP i (by omega)).2 (fun l2 e2 => ?_))
      refine am_iinc dC_findLive_106 rfl (nI_dec _) (by decide) ?_
      refine am_goto (tgt := 67) dC_findLive_109 (by decide) ?_
      refine ih _ (by omega) _ rfl (fun l hl => K l ?_)
      rw [hl]
      show _ = q_fl2 P i (if lv i = 0 then lv else q_mkl (q_mkl lv (P i 3)) (P i 4))
      first
        | (rw [if_pos c77]; done)
        | (rw [if_neg c77, e2, e1]; rfl)
set_option maxRecDepth 100000 in
set_option maxHeartbeats 4000000 in
theorem cC_findLive {g : am_G} {d : Nat} {Q : Option am_V → am_H → Prop} {Y : Nat → Nat → Nat → am_V} {A P : Nat → Nat → Int32} {st mk lv : Nat → Int32} {cl pr : Nat → Nat → Int32} {us : Nat → Int32} {si wk : Int32} {n : Nat} (hn : n ≤ 28) (hs : ∀ m, m < n → ∃ j, j < n ∧ st m = nI j) (hP : ∀ m, m < n → q_arg (P m 3) m ∧ q_arg (P m 4) m) (k : ∀ l, l = q_live n mk st P lv → Q none (hm (xc A P st mk l cl pr us (nI n) si wk) Y)) : am_C g mC_findLive (d + 1) 0 0 [am_O 0 0] (hm (xc A P st mk lv cl pr us (nI n) si wk) Y) Q := by
  refine am_enter (lv := [some (am_O 0 0), none]) rfl rfl (am_cat1 rfl) (Nat.le_of_ble_eq_true rfl) ?_
  refine am_iconst (v := 0) dC_findLive_0 (by decide) ?_
  refine am_istore_n (i := 1) dC_findLive_1 rfl (by decide) ?_
  refine am_hT (h' := (hm (xc A P st mk (fun u => if u < 0 then 0 else lv u) cl pr us (nI n) si wk) Y)) (by congr 2) (lpC_find1 hn ?_ n 0 (by omega))
  refine am_iconst (v := 0) dC_findLive_23 (by decide) ?_
  refine am_istore_n (i := 1) dC_findLive_24 rfl (by decide) ?_
  refine am_hT (h' := (hm (xc A P st mk (q_fl1 mk st (q_fl0 n lv) 0) cl pr us (nI n) si wk) Y)) rfl (lpC_find2 hn hs ?_ n 0 (by omega))
  refine am_aload_n (i := 0) dC_findLive_60 rfl rfl ?_
  refine am_getf dC_findLive_61 flC_40 (by first | rfl | exact sk8 (by omega) | exact sk9 (by omega) | exact sk10 (by omega) | exact sk11 (by omega)) rfl ?_
  refine am_iconst (v := 1) dC_findLive_64 (by decide) ?_
  refine am_isub dC_findLive_65 ?_
  refine am_istore_n (i := 1) dC_findLive_66 rfl (by decide) ?_
  exact lpC_find3 hn hP n _ (Nat.le_refl _) _ rfl k
set_option maxRecDepth 100000 in
set_option maxHeartbeats 4000000 in
theorem lpC_undo {g : am_G} {d : Nat} {Q : Option am_V → am_H → Prop} {Y : Nat → Nat → Nat → am_V} {A P : Nat → Nat → Int32} {st mk lv : Nat → Int32} {cl pr : Nat → Nat → Int32} {us : Nat → Int32} {si wk : Int32} {n : Nat} (hn : n ≤ 28) (K : am_T g mC_undoSimplifying (d + 2) 0 0 38 [some (am_O 0 0), some (am_I (nI n))] [] (hm (xc A (q_cpn n A P) (q_idn n st) mk lv cl pr us (nI n) si wk) Y) Q) : ∀ (j i : Nat), i + j = n → am_T g mC_undoSimplifying (d + 2) 0 0 2 [some (am_O 0 0), some (am_I (nI i))] [] (hm (xc A (q_cpn i A P) (q_idn i st) mk lv cl pr us (nI n) si wk) Y) Q := by
  intro j
  induction j with
  | zero =>
    intro i hi
    refine am_iload_n (i := 1) dC_undoSimplifying_2 rfl rfl ?_
    refine am_aload_n (i := 0) dC_undoSimplifying_3 rfl rfl ?_
    refine am_getf dC_undoSimplifying_4 flC_40 (by first | rfl | exact sk8 (by omega) | exact sk9 (by omega) | exact sk10 (by omega) | exact sk11 (by omega)) rfl ?_
    refine am_icmp_ge_T (tgt := 38) dC_undoSimplifying_7 (by decide) ((nI_le' (by omega) (by omega)).mpr (by omega)) ?_
    have e : i = n := by omega
    subst e
    exact K
  | succ j ih =>
    intro i hi
    refine am_iload_n (i := 1) dC_undoSimplifying_2 rfl rfl ?_
    refine am_aload_n (i := 0) dC_undoSimplifying_3 rfl rfl ?_
    refine am_getf dC_undoSimplifying_4 flC_40 (by first | rfl | exact sk8 (by omega) | exact sk9 (by omega) | exact sk10 (by omega) | exact sk11 (by omega)) rfl ?_
    refine am_icmp_ge_F (tgt := 38) dC_undoSimplifying_7 (by decide) (fun q => absurd ((nI_le' (by omega) (by omega)).mp q) (by omega)) ?_
    refine am_aload_n (i := 0) dC_undoSimplifying_10 rfl rfl ?_
    refine am_getf dC_undoSimplifying_11 flC_15 (by first | rfl | exact sk8 (by omega) | exact sk9 (by omega) | exact sk10 (by omega) | exact sk11 (by omega)) rfl ?_
    refine am_iload_n (i := 1) dC_undoSimplifying_14 rfl rfl ?_
    refine am_aald dC_undoSimplifying_15 (by first | rfl | exact sk8 (by omega) | exact sk9 (by omega) | exact sk10 (by omega) | exact sk11 (by omega)) rfl (by first | omega | assumption | decide) (by decide) (by decide) rfl rfl ?_
    refine am_aload_n (i := 0) dC_undoSimplifying_16 rfl rfl ?_
    refine am_getf dC_undoSimplifying_17 flC_11 (by first | rfl | exact sk8 (by omega) | exact sk9 (by omega) | exact sk10 (by omega) | exact sk11 (by omega)) rfl ?_
    refine am_iload_n (i := 1) dC_undoSimplifying_20 rfl rfl ?_
    refine am_aald dC_undoSimplifying_21 (by first | rfl | exact sk8 (by omega) | exact sk9 (by omega) | exact sk10 (by omega) | exact sk11 (by omega)) rfl (by first | omega | assumption | decide) (by decide) (by decide) rfl rfl ?_
    refine am_callV (ac' := 0) (as' := 0) (xs := [_]) dC_undoSimplifying_22 lkC_155 (by first | rfl | exact sk8 (by omega) | exact sk9 (by omega) | exact sk10 (by omega) | exact sk11 (by omega)) rfl rfl rfl rfl (Nat.le_of_ble_eq_true rfl) rfl rfl (cO_copyFrom (by omega) (fun T eT => ?_))
    refine am_aload_n (i := 0) dC_undoSimplifying_25 rfl rfl ?_
    refine am_getf dC_undoSimplifying_26 flC_18 (by first | rfl | exact sk8 (by omega) | exact sk9 (by omega) | exact sk10 (by omega) | exact sk11 (by omega)) rfl ?_
    refine am_iload_n (i := 1) dC_undoSimplifying_29 rfl rfl ?_
    refine am_iload_n (i := 1) dC_undoSimplifying_30 rfl rfl ?_
    refine am_iast' dC_undoSimplifying_31 (by first | rfl | exact sk8 (by omega) | exact sk9 (by omega) | exact sk10 (by omega) | exact sk11 (by omega)) rfl (by first | omega | assumption | decide) (by decide) (by decide) (by first | exact wx_st | exact wx_mk | exact wx_lv | exact wx_us | exact wx_A | exact wx_P | exact wx_cl | exact wx_pr | exact wx_va | exact wx_si | exact wx_wk) ?_
    refine am_iinc dC_undoSimplifying_32 rfl (by first | exact nI_1 _ | exact pk_m1 _ | rfl) (by decide) ?_
    refine am_goto (tgt := 2) dC_undoSimplifying_35 (by decide) ?_
    refine am_hT (h' := (hm (xc A (q_cpn (i + 1) A P) (q_idn (i + 1) st) mk lv cl pr us (nI n) si wk) Y)) ?_ (ih (i + 1) (by omega))
    rw [eT]
    congr 2
    · funext u m
      unfold q_cp q_cpn
      grind
    · funext u
      unfold upd q_idn
      grind
set_option maxRecDepth 100000 in
set_option maxHeartbeats 4000000 in
theorem cC_undo {g : am_G} {d : Nat} {Q : Option am_V → am_H → Prop} {Y : Nat → Nat → Nat → am_V} {A P : Nat → Nat → Int32} {st mk lv : Nat → Int32} {cl pr : Nat → Nat → Int32} {us : Nat → Int32} {si wk : Int32} {n : Nat} (hn : n ≤ 28) (hA : ∀ m, m < n → q_arg (A m 3) m ∧ q_arg (A m 4) m) (k : ∀ T S L, T = q_cpn n A P → S = q_idn n st → L = q_live n mk S T lv → Q none (hm (xc A T S mk L cl pr us (nI n) 0 0) Y)) : am_C g mC_undoSimplifying (d + 2) 0 0 [am_O 0 0] (hm (xc A P st mk lv cl pr us (nI n) si wk) Y) Q := by
  refine am_enter (lv := [some (am_O 0 0), none]) rfl rfl (am_cat1 rfl) (Nat.le_of_ble_eq_true rfl) ?_
  refine am_iconst (v := 0) dC_undoSimplifying_0 (by decide) ?_
  refine am_istore_n (i := 1) dC_undoSimplifying_1 rfl (by decide) ?_
  refine am_hT (h' := (hm (xc A (q_cpn 0 A P) (q_idn 0 st) mk lv cl pr us (nI n) si wk) Y)) ?_ (lpC_undo hn ?_ n 0 (by omega))
  · congr 2
  refine am_aload_n (i := 0) dC_undoSimplifying_38 rfl rfl ?_
  refine am_iconst (v := 0) dC_undoSimplifying_39 (by decide) ?_
  refine am_putf' dC_undoSimplifying_40 flC_44 (by first | rfl | exact sk8 (by omega) | exact sk9 (by omega) | exact sk10 (by omega) | exact sk11 (by omega)) rfl (fun _ => ⟨rfl, rfl⟩) (by first | exact wx_st | exact wx_mk | exact wx_lv | exact wx_us | exact wx_A | exact wx_P | exact wx_cl | exact wx_pr | exact wx_va | exact wx_si | exact wx_wk) ?_
  refine am_aload_n (i := 0) dC_undoSimplifying_43 rfl rfl ?_
  refine am_iconst (v := 0) dC_undoSimplifying_44 (by decide) ?_
  refine am_putf' dC_undoSimplifying_45 flC_48 (by first | rfl | exact sk8 (by omega) | exact sk9 (by omega) | exact sk10 (by omega) | exact sk11 (by omega)) rfl (fun _ => ⟨rfl, rfl⟩) (by first | exact wx_st | exact wx_mk | exact wx_lv | exact wx_us | exact wx_A | exact wx_P | exact wx_cl | exact wx_pr | exact wx_va | exact wx_si | exact wx_wk) ?_
  have hP' : ∀ m, m < n → q_arg (q_cpn n A P m 3) m ∧ q_arg (q_cpn n A P m 4) m := fun m hm => by
    unfold q_cpn
    rw [if_pos ⟨hm, by omega⟩, if_pos ⟨hm, by omega⟩]
    exact hA m hm
  refine am_aload_n (i := 0) dC_undoSimplifying_48 rfl rfl ?_
  refine am_callV (ac' := 0) (as' := 0) (xs := []) dC_undoSimplifying_49 lkC_112 (by first | rfl | exact sk8 (by omega) | exact sk9 (by omega) | exact sk10 (by omega) | exact sk11 (by omega)) rfl rfl rfl rfl (Nat.le_of_ble_eq_true rfl) rfl rfl (cC_findLive hn (fun m hm => ⟨m, hm, if_pos hm⟩) hP' (fun L eL => ?_))
  refine am_vret (st := []) rfl dC_undoSimplifying_52 ?_
  exact k _ _ _ rfl rfl eL
