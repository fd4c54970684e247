/-! ===== working out: pure ===== -/
def q_at (P cl : Nat → Nat → Int32) (v i j : Nat) : Int32 := cl v (i * ix (P v 2) + j)
def q_sum (f : Nat → Int32) : Nat → Int32
  | 0 => 0
  | k + 1 => q_sum f k + f k
def q_wc (P pr cl : Nat → Nat → Int32) (v i j : Nat) : Int32 :=
  if P v 0 = 0 then pr (ix (P v 5)) (i * 4 + j) else if P v 0 = 1 then P v 5 else if P v 0 = 2 then (if P v 5 = 0 then nI i else nI j)
  else if P v 0 = 3 then q_at P cl (ix (P v 3)) i j + q_at P cl (ix (P v 4)) i j else if P v 0 = 4 then q_at P cl (ix (P v 3)) i j * q_at P cl (ix (P v 4)) i j
  else if P v 0 = 5 then (if q_at P cl (ix (P v 3)) i j < q_at P cl (ix (P v 4)) i j then q_at P cl (ix (P v 4)) i j else q_at P cl (ix (P v 3)) i j)
  else if P v 0 = 6 then -q_at P cl (ix (P v 3)) i j else if P v 0 = 7 then q_at P cl (ix (P v 3)) j i
  else if P v 0 = 8 then q_sum (fun k => q_at P cl (ix (P v 3)) i k * q_at P cl (ix (P v 4)) k j) (ix (P (ix (P v 3)) 2))
  else if P v 0 = 9 then (if P v 5 = 0 then q_sum (fun k => q_at P cl (ix (P v 3)) k j) (ix (P (ix (P v 3)) 1)) else q_sum (fun k => q_at P cl (ix (P v 3)) i k) (ix (P (ix (P v 3)) 2)))
  else if P v 0 = 10 then q_at P cl (ix (P v 3)) (if P (ix (P v 3)) 1 = 1 then 0 else i) (if P (ix (P v 3)) 2 = 1 then 0 else j)
  else if P v 0 = 11 then cl (ix (P v 3)) (i * ix (P v 2) + j) else q_at P cl (ix (P v 3)) (ix (P v 5) + i) (ix (P v 6) + j)
def q_wo (P pr cl : Nat → Nat → Int32) (v : Nat) : Nat → Nat → Int32 := fun u k => if u = v ∧ k < ix (P v 1) * ix (P v 2) then q_wc P pr cl v (k / ix (P v 2)) (k % ix (P v 2)) else cl u k
def q_wk (P pr : Nat → Nat → Int32) (lv : Nat → Int32) (cl : Nat → Nat → Int32) : Nat → Nat → Nat → Int32
  | 0 => cl
  | i + 1 => if lv i = 0 then q_wk P pr lv cl i else q_wo P pr (q_wk P pr lv cl i) i
theorem q_b16 {i j c : Nat} (hi : i < 4) (hc : c ≤ 4) (hj : j < 4) : i * c + j < 16 := by
  have := Nat.mul_le_mul (show i ≤ 3 by omega) hc
  omega
theorem nI_le0 {r : Nat} (h : r ≤ 4) : r < 65536 := by omega
set_option maxRecDepth 100000 in
set_option maxHeartbeats 4000000 in
theorem cC_cellAt {g : am_G} {d : Nat} {Q : Option am_V → am_H → Prop} {Y : Nat → Nat → Nat → am_V} {A P : Nat → Nat → Int32} {st mk lv : Nat → Int32} {cl pr : Nat → Nat → Int32} {us : Nat → Int32} {va si wk : Int32} {v i0 j0 : Nat} {x i j : Int32} (hv : v < 28) (hx : x = nI v) (hi : i = nI i0) (hj : j = nI j0) (hd : q_dim (P v 2)) (hi4 : i0 < 4) (hj4 : j0 < 4) (k : ∀ r, r = q_at P cl v i0 j0 → Q (some (am_I r)) (hm (xc A P st mk lv cl pr us va si wk) Y)) : am_C g mC_cellAt d 0 0 [am_O 0 0, am_I x, am_I i, am_I j] (hm (xc A P st mk lv cl pr us va si wk) Y) Q := by
  refine am_enter (lv := [some (am_O 0 0), some (am_I x), some (am_I i), some (am_I j)]) rfl rfl (am_cat1 rfl) (Nat.le_of_ble_eq_true rfl) ?_
  obtain ⟨d1, d2, d3⟩ := q_dim_pos hd
  refine am_aload_n (i := 0) dC_cellAt_0 rfl rfl ?_
  refine am_getf dC_cellAt_1 flC_31 (by first | rfl | exact sk8 (by omega) | exact sk9 (by omega) | exact sk10 (by omega) | exact sk11 (by omega)) rfl ?_
  refine am_iload_n (i := 1) dC_cellAt_4 rfl rfl ?_
  refine am_aald dC_cellAt_5 (by first | rfl | exact sk8 (by omega) | exact sk9 (by omega) | exact sk10 (by omega) | exact sk11 (by omega)) hx (by first | omega | assumption | decide) (by decide) (by decide) rfl rfl ?_
  refine am_iload_n (i := 2) dC_cellAt_6 rfl rfl ?_
  refine am_aload_n (i := 0) dC_cellAt_7 rfl rfl ?_
  refine am_getf dC_cellAt_8 flC_15 (by first | rfl | exact sk8 (by omega) | exact sk9 (by omega) | exact sk10 (by omega) | exact sk11 (by omega)) rfl ?_
  refine am_iload_n (i := 1) dC_cellAt_11 rfl rfl ?_
  refine am_aald dC_cellAt_12 (by first | rfl | exact sk8 (by omega) | exact sk9 (by omega) | exact sk10 (by omega) | exact sk11 (by omega)) hx (by first | omega | assumption | decide) (by decide) (by decide) rfl rfl ?_
  refine am_getf dC_cellAt_13 flC_89 (by first | rfl | exact sk8 (by omega) | exact sk9 (by omega) | exact sk10 (by omega) | exact sk11 (by omega)) rfl ?_
  refine am_imul dC_cellAt_16 ?_
  refine am_iload_n (i := 3) dC_cellAt_17 rfl rfl ?_
  refine am_iadd dC_cellAt_18 ?_
  refine am_iald dC_cellAt_19 (by first | rfl | exact sk8 (by omega) | exact sk9 (by omega) | exact sk10 (by omega) | exact sk11 (by omega)) (show i * P v 2 + j = nI (i0 * ix (P v 2) + j0) by rw [hi, hj]; exact (congrArg (fun z => nI i0 * z + nI j0) d3).trans (nI_ij _ _ _)) (q_b16 hi4 d2 hj4) (by decide) (by decide) rfl ?_
  refine am_iret (st := []) rfl rfl dC_cellAt_20 ?_
  exact k _ rfl
set_option maxRecDepth 100000 in
set_option maxHeartbeats 4000000 in
theorem cC_spreadCell {g : am_G} {d : Nat} {Q : Option am_V → am_H → Prop} {Y : Nat → Nat → Nat → am_V} {A P : Nat → Nat → Int32} {st mk lv : Nat → Int32} {cl pr : Nat → Nat → Int32} {us : Nat → Int32} {va si wk : Int32} {v i0 j0 : Nat} {x i j : Int32} (hv : v < 28) (hx : x = nI v) (hi : i = nI i0) (hj : j = nI j0) (hd : q_dim (P v 2)) (hi4 : i0 < 4) (hj4 : j0 < 4) (k : ∀ r, r = q_at P cl v (if P v 1 = 1 then 0 else i0) (if P v 2 = 1 then 0 else j0) → Q (some (am_I r)) (hm (xc A P st mk lv cl pr us va si wk) Y)) : am_C g mC_spreadCell (d + 1) 0 0 [am_O 0 0, am_I x, am_I i, am_I j] (hm (xc A P st mk lv cl pr us va si wk) Y) Q := by
  refine am_enter (lv := [some (am_O 0 0), some (am_I x), some (am_I i), some (am_I j)]) rfl rfl (am_cat1 rfl) (Nat.le_of_ble_eq_true rfl) ?_
  refine am_aload_n (i := 0) dC_spreadCell_0 rfl rfl ?_
  refine am_iload_n (i := 1) dC_spreadCell_1 rfl rfl ?_
  refine am_aload_n (i := 0) dC_spreadCell_2 rfl rfl ?_
  refine am_getf dC_spreadCell_3 flC_15 (by first | rfl | exact sk8 (by omega) | exact sk9 (by omega) | exact sk10 (by omega) | exact sk11 (by omega)) rfl ?_
  refine am_iload_n (i := 1) dC_spreadCell_6 rfl rfl ?_
  refine am_aald dC_spreadCell_7 (by first | rfl | exact sk8 (by omega) | exact sk9 (by omega) | exact sk10 (by omega) | exact sk11 (by omega)) hx (by first | omega | assumption | decide) (by decide) (by decide) rfl rfl ?_
  refine am_getf dC_spreadCell_8 flC_83 (by first | rfl | exact sk8 (by omega) | exact sk9 (by omega) | exact sk10 (by omega) | exact sk11 (by omega)) rfl ?_
  refine am_iconst (v := 1) dC_spreadCell_11 (by decide) ?_
  refine am_icmp_ne (tgt := 19) dC_spreadCell_12 (by decide) (fun c12 => ?_) (fun c12 => ?_)
  · refine am_iload_n (i := 2) dC_spreadCell_19 rfl rfl ?_
    refine am_aload_n (i := 0) dC_spreadCell_20 rfl rfl ?_
    refine am_getf dC_spreadCell_21 flC_15 (by first | rfl | exact sk8 (by omega) | exact sk9 (by omega) | exact sk10 (by omega) | exact sk11 (by omega)) rfl ?_
    refine am_iload_n (i := 1) dC_spreadCell_24 rfl rfl ?_
    refine am_aald dC_spreadCell_25 (by first | rfl | exact sk8 (by omega) | exact sk9 (by omega) | exact sk10 (by omega) | exact sk11 (by omega)) hx (by first | omega | assumption | decide) (by decide) (by decide) rfl rfl ?_
    refine am_getf dC_spreadCell_26 flC_89 (by first | rfl | exact sk8 (by omega) | exact sk9 (by omega) | exact sk10 (by omega) | exact sk11 (by omega)) rfl ?_
    refine am_iconst (v := 1) dC_spreadCell_29 (by decide) ?_
    refine am_icmp_ne (tgt := 37) dC_spreadCell_30 (by decide) (fun c30 => ?_) (fun c30 => ?_)
    · refine am_iload_n (i := 3) dC_spreadCell_37 rfl rfl ?_
      refine am_callV (ac' := 0) (as' := 0) (xs := [_, _, _]) dC_spreadCell_38 lkC_125 (by first | rfl | exact sk8 (by omega) | exact sk9 (by omega) | exact sk10 (by omega) | exact sk11 (by omega)) rfl rfl rfl rfl (Nat.le_of_ble_eq_true rfl) rfl rfl (cC_cellAt (i0 := i0) (j0 := j0) hv hx hi hj hd (by omega) (by omega) (fun r er => ?_))
      refine am_iret (st := []) rfl rfl dC_spreadCell_41 ?_
      exact k _ (by rw [if_neg c12, if_neg c30]; exact er)
    · refine am_iconst (v := 0) dC_spreadCell_33 (by decide) ?_
      refine am_goto (tgt := 38) dC_spreadCell_34 (by decide) ?_
      refine am_callV (ac' := 0) (as' := 0) (xs := [_, _, _]) dC_spreadCell_38 lkC_125 (by first | rfl | exact sk8 (by omega) | exact sk9 (by omega) | exact sk10 (by omega) | exact sk11 (by omega)) rfl rfl rfl rfl (Nat.le_of_ble_eq_true rfl) rfl rfl (cC_cellAt (i0 := i0) (j0 := 0) hv hx hi rfl hd (by omega) (by omega) (fun r er => ?_))
      refine am_iret (st := []) rfl rfl dC_spreadCell_41 ?_
      exact k _ (by rw [if_neg c12, if_pos c30]; exact er)
  · refine am_iconst (v := 0) dC_spreadCell_15 (by decide) ?_
    refine am_goto (tgt := 20) dC_spreadCell_16 (by decide) ?_
    refine am_aload_n (i := 0) dC_spreadCell_20 rfl rfl ?_
    refine am_getf dC_spreadCell_21 flC_15 (by first | rfl | exact sk8 (by omega) | exact sk9 (by omega) | exact sk10 (by omega) | exact sk11 (by omega)) rfl ?_
    refine am_iload_n (i := 1) dC_spreadCell_24 rfl rfl ?_
    refine am_aald dC_spreadCell_25 (by first | rfl | exact sk8 (by omega) | exact sk9 (by omega) | exact sk10 (by omega) | exact sk11 (by omega)) hx (by first | omega | assumption | decide) (by decide) (by decide) rfl rfl ?_
    refine am_getf dC_spreadCell_26 flC_89 (by first | rfl | exact sk8 (by omega) | exact sk9 (by omega) | exact sk10 (by omega) | exact sk11 (by omega)) rfl ?_
    refine am_iconst (v := 1) dC_spreadCell_29 (by decide) ?_
    refine am_icmp_ne (tgt := 37) dC_spreadCell_30 (by decide) (fun c30 => ?_) (fun c30 => ?_)
    · refine am_iload_n (i := 3) dC_spreadCell_37 rfl rfl ?_
      refine am_callV (ac' := 0) (as' := 0) (xs := [_, _, _]) dC_spreadCell_38 lkC_125 (by first | rfl | exact sk8 (by omega) | exact sk9 (by omega) | exact sk10 (by omega) | exact sk11 (by omega)) rfl rfl rfl rfl (Nat.le_of_ble_eq_true rfl) rfl rfl (cC_cellAt (i0 := 0) (j0 := j0) hv hx rfl hj hd (by omega) (by omega) (fun r er => ?_))
      refine am_iret (st := []) rfl rfl dC_spreadCell_41 ?_
      exact k _ (by rw [if_pos c12, if_neg c30]; exact er)
    · refine am_iconst (v := 0) dC_spreadCell_33 (by decide) ?_
      refine am_goto (tgt := 38) dC_spreadCell_34 (by decide) ?_
      refine am_callV (ac' := 0) (as' := 0) (xs := [_, _, _]) dC_spreadCell_38 lkC_125 (by first | rfl | exact sk8 (by omega) | exact sk9 (by omega) | exact sk10 (by omega) | exact sk11 (by omega)) rfl rfl rfl rfl (Nat.le_of_ble_eq_true rfl) rfl rfl (cC_cellAt (i0 := 0) (j0 := 0) hv hx rfl rfl hd (by omega) (by omega) (fun r er => ?_))
      refine am_iret (st := []) rfl rfl dC_spreadCell_41 ?_
      exact k _ (by rw [if_pos c12, if_pos c30]; exact er)
set_option maxRecDepth 100000 in
set_option maxHeartbeats 4000000 in
theorem lpC_sumOfColumn {g : am_G} {d : Nat} {Q : Option am_V → am_H → Prop} {Y : Nat → Nat → Nat → am_V} {A P : Nat → Nat → Int32} {st mk lv : Nat → Int32} {cl pr : Nat → Nat → Int32} {us : Nat → Int32} {va si wk : Int32} {v j0 m : Nat} {x y : Int32} (hv : v < 28) (hx : x = nI v) (hy : y = nI j0) (hd : q_dim (P v 2)) (h4 : j0 < 4) (hM : P v 1 = nI m) (hm4 : m ≤ 4) (K : Q (some (am_I (q_sum (fun k => q_at P cl v k j0) m))) (hm (xc A P st mk lv cl pr us va si wk) Y)) : ∀ (j i : Nat), i + j = m → am_T g mC_sumOfColumn (d + 1) 0 0 5 [some (am_O 0 0), some (am_I x), some (am_I y), some (am_I (q_sum (fun k => q_at P cl v k j0) i)), some (am_I (nI i))] [] (hm (xc A P st mk lv cl pr us va si wk) Y) Q := by
  intro j
  induction j with
  | zero =>
    intro i hi
    refine am_iload (i := 4) dC_sumOfColumn_5 rfl ?_
    refine am_aload_n (i := 0) dC_sumOfColumn_7 rfl rfl ?_
    refine am_getf dC_sumOfColumn_8 flC_15 (by first | rfl | exact sk8 (by omega) | exact sk9 (by omega) | exact sk10 (by omega) | exact sk11 (by omega)) rfl ?_
    refine am_iload_n (i := 1) dC_sumOfColumn_11 rfl rfl ?_
    refine am_aald dC_sumOfColumn_12 (by first | rfl | exact sk8 (by omega) | exact sk9 (by omega) | exact sk10 (by omega) | exact sk11 (by omega)) hx (by first | omega | assumption | decide) (by decide) (by decide) rfl rfl ?_
    refine am_getf dC_sumOfColumn_13 flC_83 (by first | rfl | exact sk8 (by omega) | exact sk9 (by omega) | exact sk10 (by omega) | exact sk11 (by omega)) rfl ?_
    refine am_icmp_ge_T (tgt := 36) dC_sumOfColumn_16 (by decide) (by rw [hM]; exact ((nI_le' (by omega) (by omega)).mpr (by omega))) ?_
    refine am_iload_n (i := 3) dC_sumOfColumn_36 rfl rfl ?_
    refine am_iret (st := []) rfl rfl dC_sumOfColumn_37 ?_
    have e : i = m := by omega
    subst e
    exact K
  | succ j ih =>
    intro i hi
    refine am_iload (i := 4) dC_sumOfColumn_5 rfl ?_
    refine am_aload_n (i := 0) dC_sumOfColumn_7 rfl rfl ?_
    refine am_getf dC_sumOfColumn_8 flC_15 (by first | rfl | exact sk8 (by omega) | exact sk9 (by omega) | exact sk10 (by omega) | exact sk11 (by omega)) rfl ?_
    refine am_iload_n (i := 1) dC_sumOfColumn_11 rfl rfl ?_
    refine am_aald dC_sumOfColumn_12 (by first | rfl | exact sk8 (by omega) | exact sk9 (by omega) | exact sk10 (by omega) | exact sk11 (by omega)) hx (by first | omega | assumption | decide) (by decide) (by decide) rfl rfl ?_
    refine am_getf dC_sumOfColumn_13 flC_83 (by first | rfl | exact sk8 (by omega) | exact sk9 (by omega) | exact sk10 (by omega) | exact sk11 (by omega)) rfl ?_
    refine am_icmp_ge_F (tgt := 36) dC_sumOfColumn_16 (by decide) (by rw [hM]; exact (fun q => absurd ((nI_le' (by omega) (by omega)).mp q) (by omega))) ?_
    refine am_iload_n (i := 3) dC_sumOfColumn_19 rfl rfl ?_
    refine am_aload_n (i := 0) dC_sumOfColumn_20 rfl rfl ?_
    refine am_iload_n (i := 1) dC_sumOfColumn_21 rfl rfl ?_
    refine am_iload (i := 4) dC_sumOfColumn_22 rfl ?_
    refine am_iload_n (i := 2) dC_sumOfColumn_24 rfl rfl ?_
    refine am_callV (ac' := 0) (as' := 0) (xs := [_, _, _]) dC_sumOfColumn_25 lkC_125 (by first | rfl | exact sk8 (by omega) | exact sk9 (by omega) | exact sk10 (by omega) | exact sk11 (by omega)) rfl rfl rfl rfl (Nat.le_of_ble_eq_true rfl) rfl rfl (cC_cellAt (i0 := i) (j0 := j0) hv hx rfl hy hd (by omega) (by omega) (fun r er => ?_))
    refine am_iadd dC_sumOfColumn_28 ?_
    refine am_istore_n (i := 3) dC_sumOfColumn_29 rfl (by decide) ?_
    refine am_iinc dC_sumOfColumn_30 rfl (by first | exact nI_1 _ | exact pk_m1 _ | rfl) (by decide) ?_
    refine am_goto (tgt := 5) dC_sumOfColumn_33 (by decide) ?_
    refine am_lT (lv' := [some (am_O 0 0), some (am_I x), some (am_I y), some (am_I (q_sum (fun k => q_at P cl v k j0) (i + 1))), some (am_I (nI (i + 1)))]) ?_ (ih (i + 1) (by omega))
    rw [er]
    rfl
set_option maxRecDepth 100000 in
set_option maxHeartbeats 4000000 in
theorem cC_sumOfColumn {g : am_G} {d : Nat} {Q : Option am_V → am_H → Prop} {Y : Nat → Nat → Nat → am_V} {A P : Nat → Nat → Int32} {st mk lv : Nat → Int32} {cl pr : Nat → Nat → Int32} {us : Nat → Int32} {va si wk : Int32} {v j0 m : Nat} {x y : Int32} (hv : v < 28) (hx : x = nI v) (hy : y = nI j0) (hd : q_dim (P v 2)) (h4 : j0 < 4) (hM : P v 1 = nI m) (hm4 : m ≤ 4) (k : ∀ r, r = q_sum (fun k => q_at P cl v k j0) m → Q (some (am_I r)) (hm (xc A P st mk lv cl pr us va si wk) Y)) : am_C g mC_sumOfColumn (d + 1) 0 0 [am_O 0 0, am_I x, am_I y] (hm (xc A P st mk lv cl pr us va si wk) Y) Q := by
  refine am_enter (lv := [some (am_O 0 0), some (am_I x), some (am_I y), none, none]) rfl rfl (am_cat1 rfl) (Nat.le_of_ble_eq_true rfl) ?_
  refine am_iconst (v := 0) dC_sumOfColumn_0 (by decide) ?_
  refine am_istore_n (i := 3) dC_sumOfColumn_1 rfl (by decide) ?_
  refine am_iconst (v := 0) dC_sumOfColumn_2 (by decide) ?_
  refine am_istore (i := 4) dC_sumOfColumn_3 (by decide) ?_
  exact lpC_sumOfColumn hv hx hy hd h4 hM hm4 (k _ rfl) m 0 (by omega)
set_option maxRecDepth 100000 in
set_option maxHeartbeats 4000000 in
theorem lpC_sumOfRow {g : am_G} {d : Nat} {Q : Option am_V → am_H → Prop} {Y : Nat → Nat → Nat → am_V} {A P : Nat → Nat → Int32} {st mk lv : Nat → Int32} {cl pr : Nat → Nat → Int32} {us : Nat → Int32} {va si wk : Int32} {v i0 m : Nat} {x y : Int32} (hv : v < 28) (hx : x = nI v) (hy : y = nI i0) (hd : q_dim (P v 2)) (h4 : i0 < 4) (hM : P v 2 = nI m) (hm4 : m ≤ 4) (K : Q (some (am_I (q_sum (fun k => q_at P cl v i0 k) m))) (hm (xc A P st mk lv cl pr us va si wk) Y)) : ∀ (j i : Nat), i + j = m → am_T g mC_sumOfRow (d + 1) 0 0 5 [some (am_O 0 0), some (am_I x), some (am_I y), some (am_I (q_sum (fun k => q_at P cl v i0 k) i)), some (am_I (nI i))] [] (hm (xc A P st mk lv cl pr us va si wk) Y) Q := by
  intro j
  induction j with
  | zero =>
    intro i hi
    refine am_iload (i := 4) dC_sumOfRow_5 rfl ?_
    refine am_aload_n (i := 0) dC_sumOfRow_7 rfl rfl ?_
    refine am_getf dC_sumOfRow_8 flC_15 (by first | rfl | exact sk8 (by omega) | exact sk9 (by omega) | exact sk10 (by omega) | exact sk11 (by omega)) rfl ?_
    refine am_iload_n (i := 1) dC_sumOfRow_11 rfl rfl ?_
    refine am_aald dC_sumOfRow_12 (by first | rfl | exact sk8 (by omega) | exact sk9 (by omega) | exact sk10 (by omega) | exact sk11 (by omega)) hx (by first | omega | assumption | decide) (by decide) (by decide) rfl rfl ?_
    refine am_getf dC_sumOfRow_13 flC_89 (by first | rfl | exact sk8 (by omega) | exact sk9 (by omega) | exact sk10 (by omega) | exact sk11 (by omega)) rfl ?_
    refine am_icmp_ge_T (tgt := 36) dC_sumOfRow_16 (by decide) (by rw [hM]; exact ((nI_le' (by omega) (by omega)).mpr (by omega))) ?_
    refine am_iload_n (i := 3) dC_sumOfRow_36 rfl rfl ?_
    refine am_iret (st := []) rfl rfl dC_sumOfRow_37 ?_
    have e : i = m := by omega
    subst e
    exact K
  | succ j ih =>
    intro i hi
    refine am_iload (i := 4) dC_sumOfRow_5 rfl ?_
    refine am_aload_n (i := 0) dC_sumOfRow_7 rfl rfl ?_
    refine am_getf dC_sumOfRow_8 flC_15 (by first | rfl | exact sk8 (by omega) | exact sk9 (by omega) | exact sk10 (by omega) | exact sk11 (by omega)) rfl ?_
    refine am_iload_n (i := 1) dC_sumOfRow_11 rfl rfl ?_
    refine am_aald dC_sumOfRow_12 (by first | rfl | exact sk8 (by omega) | exact sk9 (by omega) | exact sk10 (by omega) | exact sk11 (by omega)) hx (by first | omega | assumption | decide) (by decide) (by decide) rfl rfl ?_
    refine am_getf dC_sumOfRow_13 flC_89 (by first | rfl | exact sk8 (by omega) | exact sk9 (by omega) | exact sk10 (by omega) | exact sk11 (by omega)) rfl ?_
    refine am_icmp_ge_F (tgt := 36) dC_sumOfRow_16 (by decide) (by rw [hM]; exact (fun q => absurd ((nI_le' (by omega) (by omega)).mp q) (by omega))) ?_
    refine am_iload_n (i := 3) dC_sumOfRow_19 rfl rfl ?_
    refine am_aload_n (i := 0) dC_sumOfRow_20 rfl rfl ?_
    refine am_iload_n (i := 1) dC_sumOfRow_21 rfl rfl ?_
    refine am_iload_n (i := 2) dC_sumOfRow_22 rfl rfl ?_
    refine am_iload (i := 4) dC_sumOfRow_23 rfl ?_
    refine am_callV (ac' := 0) (as' := 0) (xs := [_, _, _]) dC_sumOfRow_25 lkC_125 (by first | rfl | exact sk8 (by omega) | exact sk9 (by omega) | exact sk10 (by omega) | exact sk11 (by omega)) rfl rfl rfl rfl (Nat.le_of_ble_eq_true rfl) rfl rfl (cC_cellAt (i0 := i0) (j0 := i) hv hx hy rfl hd (by omega) (by omega) (fun r er => ?_))
    refine am_iadd dC_sumOfRow_28 ?_
    refine am_istore_n (i := 3) dC_sumOfRow_29 rfl (by decide) ?_
    refine am_iinc dC_sumOfRow_30 rfl (by first | exact nI_1 _ | exact pk_m1 _ | rfl) (by decide) ?_
    refine am_goto (tgt := 5) dC_sumOfRow_33 (by decide) ?_
    refine am_lT (lv' := [some (am_O 0 0), some (am_I x), some (am_I y), some (am_I (q_sum (fun k => q_at P cl v i0 k) (i + 1))), some (am_I (nI (i + 1)))]) ?_ (ih (i + 1) (by omega))
    rw [er]
    rfl
set_option maxRecDepth 100000 in
set_option maxHeartbeats 4000000 in
theorem cC_sumOfRow {g : am_G} {d : Nat} {Q : Option am_V → am_H → Prop} {Y : Nat → Nat → Nat → am_V} {A P : Nat → Nat → Int32} {st mk lv : Nat → Int32} {cl pr : Nat → Nat → Int32} {us : Nat → Int32} {va si wk : Int32} {v i0 m : Nat} {x y : Int32} (hv : v < 28) (hx : x = nI v) (hy : y = nI i0) (hd : q_dim (P v 2)) (h4 : i0 < 4) (hM : P v 2 = nI m) (hm4 : m ≤ 4) (k : ∀ r, r = q_sum (fun k => q_at P cl v i0 k) m → Q (some (am_I r)) (hm (xc A P st mk lv cl pr us va si wk) Y)) : am_C g mC_sumOfRow (d + 1) 0 0 [am_O 0 0, am_I x, am_I y] (hm (xc A P st mk lv cl pr us va si wk) Y) Q := by
  refine am_enter (lv := [some (am_O 0 0), some (am_I x), some (am_I y), none, none]) rfl rfl (am_cat1 rfl) (Nat.le_of_ble_eq_true rfl) ?_
  refine am_iconst (v := 0) dC_sumOfRow_0 (by decide) ?_
  refine am_istore_n (i := 3) dC_sumOfRow_1 rfl (by decide) ?_
  refine am_iconst (v := 0) dC_sumOfRow_2 (by decide) ?_
  refine am_istore (i := 4) dC_sumOfRow_3 (by decide) ?_
  exact lpC_sumOfRow hv hx hy hd h4 hM hm4 (k _ rfl) m 0 (by omega)
set_option maxRecDepth 100000 in
set_option maxHeartbeats 4000000 in
theorem lpC_dotCell {g : am_G} {d : Nat} {Q : Option am_V → am_H → Prop} {Y : Nat → Nat → Nat → am_V} {A P : Nat → Nat → Int32} {st mk lv : Nat → Int32} {cl pr : Nat → Nat → Int32} {us : Nat → Int32} {va si wk : Int32} {v i0 j0 m : Nat} (hv : v < 28) (ha : ix (P v 3) < 28) (ea : P v 3 = nI (ix (P v 3))) (hb : ix (P v 4) < 28) (eb : P v 4 = nI (ix (P v 4))) (da : q_dim (P (ix (P v 3)) 2)) (db : q_dim (P (ix (P v 4)) 2)) (hi4 : i0 < 4) (hj4 : j0 < 4) (hM : P (ix (P v 3)) 2 = nI m) (hm4 : m ≤ 4) (K : Q (some (am_I (q_sum (fun k => q_at P cl (ix (P v 3)) i0 k * q_at P cl (ix (P v 4)) k j0) m))) (hm (xc A P st mk lv cl pr us va si wk) Y)) : ∀ (j i : Nat), i + j = m → am_T g mC_dotCell (d + 1) 0 0 6 [some (am_O 0 0), some (am_O 9 v), some (am_I (nI i0)), some (am_I (nI j0)), some (am_I (q_sum (fun k => q_at P cl (ix (P v 3)) i0 k * q_at P cl (ix (P v 4)) k j0) i)), some (am_I (nI i))] [] (hm (xc A P st mk lv cl pr us va si wk) Y) Q := by
  intro j
  induction j with
  | zero =>
    intro i hi
    refine am_iload (i := 5) dC_dotCell_6 rfl ?_
    refine am_aload_n (i := 0) dC_dotCell_8 rfl rfl ?_
    refine am_getf dC_dotCell_9 flC_15 (by first | rfl | exact sk8 (by omega) | exact sk9 (by omega) | exact sk10 (by omega) | exact sk11 (by omega)) rfl ?_
    refine am_aload_n (i := 1) dC_dotCell_12 rfl rfl ?_
    refine am_getf dC_dotCell_13 flC_132 (by first | rfl | exact sk8 (by omega) | exact sk9 (by omega) | exact sk10 (by omega) | exact sk11 (by omega)) rfl ?_
    refine am_aald dC_dotCell_16 (by first | rfl | exact sk8 (by omega) | exact sk9 (by omega) | exact sk10 (by omega) | exact sk11 (by omega)) ea (by first | omega | assumption | decide) (by decide) (by decide) rfl rfl ?_
    refine am_getf dC_dotCell_17 flC_89 (by first | rfl | exact sk8 (by omega) | exact sk9 (by omega) | exact sk10 (by omega) | exact sk11 (by omega)) rfl ?_
    refine am_icmp_ge_T (tgt := 57) dC_dotCell_20 (by decide) (by rw [hM]; exact ((nI_le' (by omega) (by omega)).mpr (by omega))) ?_
    refine am_iload (i := 4) dC_dotCell_57 rfl ?_
    refine am_iret (st := []) rfl rfl dC_dotCell_59 ?_
    have e : i = m := by omega
    subst e
    exact K
  | succ j ih =>
    intro i hi
    refine am_iload (i := 5) dC_dotCell_6 rfl ?_
    refine am_aload_n (i := 0) dC_dotCell_8 rfl rfl ?_
    refine am_getf dC_dotCell_9 flC_15 (by first | rfl | exact sk8 (by omega) | exact sk9 (by omega) | exact sk10 (by omega) | exact sk11 (by omega)) rfl ?_
    refine am_aload_n (i := 1) dC_dotCell_12 rfl rfl ?_
    refine am_getf dC_dotCell_13 flC_132 (by first | rfl | exact sk8 (by omega) | exact sk9 (by omega) | exact sk10 (by omega) | exact sk11 (by omega)) rfl ?_
    refine am_aald dC_dotCell_16 (by first | rfl | exact sk8 (by omega) | exact sk9 (by omega) | exact sk10 (by omega) | exact sk11 (by omega)) ea (by first | omega | assumption | decide) (by decide) (by decide) rfl rfl ?_
    refine am_getf dC_dotCell_17 flC_89 (by first | rfl | exact sk8 (by omega) | exact sk9 (by omega) | exact sk10 (by omega) | exact sk11 (by omega)) rfl ?_
    refine am_icmp_ge_F (tgt := 57) dC_dotCell_20 (by decide) (by rw [hM]; exact (fun q => absurd ((nI_le' (by omega) (by omega)).mp q) (by omega))) ?_
    refine am_iload (i := 4) dC_dotCell_23 rfl ?_
    refine am_aload_n (i := 0) dC_dotCell_25 rfl rfl ?_
    refine am_aload_n (i := 1) dC_dotCell_26 rfl rfl ?_
    refine am_getf dC_dotCell_27 flC_132 (by first | rfl | exact sk8 (by omega) | exact sk9 (by omega) | exact sk10 (by omega) | exact sk11 (by omega)) rfl ?_
    refine am_iload_n (i := 2) dC_dotCell_30 rfl rfl ?_
    refine am_iload (i := 5) dC_dotCell_31 rfl ?_
    refine am_callV (ac' := 0) (as' := 0) (xs := [_, _, _]) dC_dotCell_33 lkC_125 (by first | rfl | exact sk8 (by omega) | exact sk9 (by omega) | exact sk10 (by omega) | exact sk11 (by omega)) rfl rfl rfl rfl (Nat.le_of_ble_eq_true rfl) rfl rfl (cC_cellAt (i0 := i0) (j0 := i) ha ea rfl rfl da (by omega) (by omega) (fun r er => ?_))
    refine am_aload_n (i := 0) dC_dotCell_36 rfl rfl ?_
    refine am_aload_n (i := 1) dC_dotCell_37 rfl rfl ?_
    refine am_getf dC_dotCell_38 flC_135 (by first | rfl | exact sk8 (by omega) | exact sk9 (by omega) | exact sk10 (by omega) | exact sk11 (by omega)) rfl ?_
    refine am_iload (i := 5) dC_dotCell_41 rfl ?_
    refine am_iload_n (i := 3) dC_dotCell_43 rfl rfl ?_
    refine am_callV (ac' := 0) (as' := 0) (xs := [_, _, _]) dC_dotCell_44 lkC_125 (by first | rfl | exact sk8 (by omega) | exact sk9 (by omega) | exact sk10 (by omega) | exact sk11 (by omega)) rfl rfl rfl rfl (Nat.le_of_ble_eq_true rfl) rfl rfl (cC_cellAt (i0 := i) (j0 := j0) hb eb rfl rfl db (by omega) (by omega) (fun s es => ?_))
    refine am_imul dC_dotCell_47 ?_
    refine am_iadd dC_dotCell_48 ?_
    refine am_istore (i := 4) dC_dotCell_49 (by decide) ?_
    refine am_iinc dC_dotCell_51 rfl (by first | exact nI_1 _ | exact pk_m1 _ | rfl) (by decide) ?_
    refine am_goto (tgt := 6) dC_dotCell_54 (by decide) ?_
    refine am_lT (lv' := [some (am_O 0 0), some (am_O 9 v), some (am_I (nI i0)), some (am_I (nI j0)), some (am_I (q_sum (fun k => q_at P cl (ix (P v 3)) i0 k * q_at P cl (ix (P v 4)) k j0) (i + 1))), some (am_I (nI (i + 1)))]) ?_ (ih (i + 1) (by omega))
    rw [er, es]
    rfl
set_option maxRecDepth 100000 in
set_option maxHeartbeats 4000000 in
theorem cC_dotCell {g : am_G} {d : Nat} {Q : Option am_V → am_H → Prop} {Y : Nat → Nat → Nat → am_V} {A P : Nat → Nat → Int32} {st mk lv : Nat → Int32} {cl pr : Nat → Nat → Int32} {us : Nat → Int32} {va si wk : Int32} {v i0 j0 m : Nat} (hv : v < 28) (ha : ix (P v 3) < 28) (ea : P v 3 = nI (ix (P v 3))) (hb : ix (P v 4) < 28) (eb : P v 4 = nI (ix (P v 4))) (da : q_dim (P (ix (P v 3)) 2)) (db : q_dim (P (ix (P v 4)) 2)) (hi4 : i0 < 4) (hj4 : j0 < 4) (hM : P (ix (P v 3)) 2 = nI m) (hm4 : m ≤ 4) (k : ∀ r, r = q_sum (fun k => q_at P cl (ix (P v 3)) i0 k * q_at P cl (ix (P v 4)) k j0) m → Q (some (am_I r)) (hm (xc A P st mk lv cl pr us va si wk) Y)) : am_C g mC_dotCell (d + 1) 0 0 [am_O 0 0, am_O 9 v, am_I (nI i0), am_I (nI j0)] (hm (xc A P st mk lv cl pr us va si wk) Y) Q := by
  refine am_enter (lv := [some (am_O 0 0), some (am_O 9 v), some (am_I (nI i0)), some (am_I (nI j0)), none, none]) rfl rfl (am_cat1 rfl) (Nat.le_of_ble_eq_true rfl) ?_
  refine am_iconst (v := 0) dC_dotCell_0 (by decide) ?_
  refine am_istore (i := 4) dC_dotCell_1 (by decide) ?_
  refine am_iconst (v := 0) dC_dotCell_3 (by decide) ?_
  refine am_istore (i := 5) dC_dotCell_4 (by decide) ?_
  exact lpC_dotCell hv ha ea hb eb da db hi4 hj4 hM hm4 (k _ rfl) m 0 (by omega)
theorem q_kind12 {x : Int32} (h : q_kind x) (ho : x.toInt < 0 ∨ 11 < x.toInt) : x = 12 := by
  obtain ⟨κ, a, e⟩ := h
  rw [e, nI_toInt (by omega)] at ho
  have : κ = 12 := by omega
  rw [e, this]
  rfl
theorem q_wc12 {P pr cl : Nat → Nat → Int32} {v i j : Nat} (h : P v 0 = 12) : q_wc P pr cl v i j = q_at P cl (ix (P v 3)) (ix (P v 5) + i) (ix (P v 6) + j) := by
  unfold q_wc
  rw [h]
  rfl
set_option maxRecDepth 100000 in
set_option maxHeartbeats 4000000 in
theorem cC_workedCell {g : am_G} {d : Nat} {Q : Option am_V → am_H → Prop} {Y : Nat → Nat → Nat → am_V} {A P : Nat → Nat → Int32} {st mk lv : Nat → Int32} {cl pr : Nat → Nat → Int32} {us : Nat → Int32} {si wk : Int32} {n : Nat} {v i0 j0 : Nat} (hn : n ≤ 28) (hP : ∀ u, u < n → q_ok P u) (hv : v < n) (hi : i0 < ix (P v 1)) (hj : j0 < ix (P v 2)) (k : ∀ r, r = q_wc P pr cl v i0 j0 → Q (some (am_I r)) (hm (xc A P st mk lv cl pr us (nI n) si wk) Y)) : am_C g mC_workedCell (d + 2) 0 0 [am_O 0 0, am_O 9 v, am_I (nI i0), am_I (nI j0)] (hm (xc A P st mk lv cl pr us (nI n) si wk) Y) Q := by
  refine am_enter (lv := [some (am_O 0 0), some (am_O 9 v), some (am_I (nI i0)), some (am_I (nI j0))]) rfl rfl (am_cat1 rfl) (Nat.le_of_ble_eq_true rfl) ?_
  have hok := hP v hv
  obtain ⟨⟨hb3, hb4, hb5, hb6⟩, hcom, hkd, hdr, hdc⟩ := hok
  obtain ⟨r1, r2, r3⟩ := q_dim_pos hdr
  obtain ⟨c1, c2, c3⟩ := q_dim_pos hdc
  unfold q_com q_fit at hcom
  refine am_aload_n (i := 1) dC_workedCell_0 rfl rfl ?_
  refine am_getf dC_workedCell_1 flC_129 (by first | rfl | exact sk8 (by omega) | exact sk9 (by omega) | exact sk10 (by omega) | exact sk11 (by omega)) rfl ?_
  rcases sw_0_11 (P v 0) with s4 | s4 | s4 | s4 | s4 | s4 | s4 | s4 | s4 | s4 | s4 | s4 | s4
  · refine am_tableIn (off := 64) (tgt := 68) dC_workedCell_4 (by rw [s4]; decide) (by rw [s4]; decide) (by rw [s4]; rfl) (by decide) ?_
    obtain ⟨p0, hp0, ep0⟩ := hcom.2.2.2.2.2.2.2.2 s4
    refine am_aload_n (i := 0) dC_workedCell_68 rfl rfl ?_
    refine am_getf dC_workedCell_69 flC_34 (by first | rfl | exact sk8 (by omega) | exact sk9 (by omega) | exact sk10 (by omega) | exact sk11 (by omega)) rfl ?_
    refine am_aload_n (i := 1) dC_workedCell_72 rfl rfl ?_
    refine am_getf dC_workedCell_73 flC_138 (by first | rfl | exact sk8 (by omega) | exact sk9 (by omega) | exact sk10 (by omega) | exact sk11 (by omega)) rfl ?_
    refine am_aald dC_workedCell_76 (by first | rfl | exact sk8 (by omega) | exact sk9 (by omega) | exact sk10 (by omega) | exact sk11 (by omega)) ep0 (by first | omega | assumption | decide) (by decide) (by decide) rfl rfl ?_
    refine am_iload_n (i := 2) dC_workedCell_77 rfl rfl ?_
    refine am_iconst (v := 4) dC_workedCell_78 (by decide) ?_
    refine am_imul dC_workedCell_79 ?_
    refine am_iload_n (i := 3) dC_workedCell_80 rfl rfl ?_
    refine am_iadd dC_workedCell_81 ?_
    refine am_iald dC_workedCell_82 (by first | rfl | exact sk8 (by omega) | exact sk9 (by omega) | exact sk10 (by omega) | exact sk11 (by omega)) (nI_ij i0 4 j0) (by first | omega | assumption | decide) (by decide) (by decide) rfl ?_
    refine am_iret (st := []) rfl rfl dC_workedCell_83 ?_
    exact k _ (by unfold q_wc; rw [if_pos s4, ep0, ix_nI (by omega)])
  · refine am_tableIn (off := 80) (tgt := 84) dC_workedCell_4 (by rw [s4]; decide) (by rw [s4]; decide) (by rw [s4]; rfl) (by decide) ?_
    refine am_aload_n (i := 1) dC_workedCell_84 rfl rfl ?_
    refine am_getf dC_workedCell_85 flC_138 (by first | rfl | exact sk8 (by omega) | exact sk9 (by omega) | exact sk10 (by omega) | exact sk11 (by omega)) rfl ?_
    refine am_iret (st := []) rfl rfl dC_workedCell_88 ?_
    exact k _ (by unfold q_wc; grind)
  · refine am_tableIn (off := 85) (tgt := 89) dC_workedCell_4 (by rw [s4]; decide) (by rw [s4]; decide) (by rw [s4]; rfl) (by decide) ?_
    refine am_aload_n (i := 1) dC_workedCell_89 rfl rfl ?_
    refine am_getf dC_workedCell_90 flC_138 (by first | rfl | exact sk8 (by omega) | exact sk9 (by omega) | exact sk10 (by omega) | exact sk11 (by omega)) rfl ?_
    refine am_if_ne (tgt := 100) dC_workedCell_93 (by decide) (fun c93 => ?_) (fun c93 => ?_)
    · refine am_iload_n (i := 3) dC_workedCell_100 rfl rfl ?_
      refine am_iret (st := []) rfl rfl dC_workedCell_101 ?_
      exact k _ (by unfold q_wc; grind)
    · refine am_iload_n (i := 2) dC_workedCell_96 rfl rfl ?_
      refine am_goto (tgt := 101) dC_workedCell_97 (by decide) ?_
      refine am_iret (st := []) rfl rfl dC_workedCell_101 ?_
      exact k _ (by unfold q_wc; grind)
  · refine am_tableIn (off := 98) (tgt := 102) dC_workedCell_4 (by rw [s4]; decide) (by rw [s4]; decide) (by rw [s4]; rfl) (by decide) ?_
    obtain ⟨g3, e3⟩ := hb3.ix (hb5 (k2_of _ s4 (by decide))) (by omega)
    have hda1 := (hP (ix (P v 3)) (by omega)).2.2.2.1
    have hda := (hP (ix (P v 3)) (by omega)).2.2.2.2
    obtain ⟨g4, e4⟩ := hb4.ix (hb6 (by grind)) (by omega)
    have hdb := (hP (ix (P v 4)) (by omega)).2.2.2.2
    refine am_aload_n (i := 0) dC_workedCell_102 rfl rfl ?_
    refine am_aload_n (i := 1) dC_workedCell_103 rfl rfl ?_
    refine am_getf dC_workedCell_104 flC_132 (by first | rfl | exact sk8 (by omega) | exact sk9 (by omega) | exact sk10 (by omega) | exact sk11 (by omega)) rfl ?_
    refine am_iload_n (i := 2) dC_workedCell_107 rfl rfl ?_
    refine am_iload_n (i := 3) dC_workedCell_108 rfl rfl ?_
    refine am_callV (ac' := 0) (as' := 0) (xs := [_, _, _]) dC_workedCell_109 lkC_125 (by first | rfl | exact sk8 (by omega) | exact sk9 (by omega) | exact sk10 (by omega) | exact sk11 (by omega)) rfl rfl rfl rfl (Nat.le_of_ble_eq_true rfl) rfl rfl (cC_cellAt (i0 := i0) (j0 := j0) (by omega) e3 rfl rfl hda (by omega) (by omega) (fun x ex => ?_))
    refine am_aload_n (i := 0) dC_workedCell_112 rfl rfl ?_
    refine am_aload_n (i := 1) dC_workedCell_113 rfl rfl ?_
    refine am_getf dC_workedCell_114 flC_135 (by first | rfl | exact sk8 (by omega) | exact sk9 (by omega) | exact sk10 (by omega) | exact sk11 (by omega)) rfl ?_
    refine am_iload_n (i := 2) dC_workedCell_117 rfl rfl ?_
    refine am_iload_n (i := 3) dC_workedCell_118 rfl rfl ?_
    refine am_callV (ac' := 0) (as' := 0) (xs := [_, _, _]) dC_workedCell_119 lkC_125 (by first | rfl | exact sk8 (by omega) | exact sk9 (by omega) | exact sk10 (by omega) | exact sk11 (by omega)) rfl rfl rfl rfl (Nat.le_of_ble_eq_true rfl) rfl rfl (cC_cellAt (i0 := i0) (j0 := j0) (by omega) e4 rfl rfl hdb (by omega) (by omega) (fun y ey => ?_))
    refine am_iadd dC_workedCell_122 ?_
    refine am_iret (st := []) rfl rfl dC_workedCell_123 ?_
    exact k _ (by unfold q_wc; grind)
  · refine am_tableIn (off := 120) (tgt := 124) dC_workedCell_4 (by rw [s4]; decide) (by rw [s4]; decide) (by rw [s4]; rfl) (by decide) ?_
    obtain ⟨g3, e3⟩ := hb3.ix (hb5 (k2_of _ s4 (by decide))) (by omega)
    have hda1 := (hP (ix (P v 3)) (by omega)).2.2.2.1
    have hda := (hP (ix (P v 3)) (by omega)).2.2.2.2
    obtain ⟨g4, e4⟩ := hb4.ix (hb6 (by grind)) (by omega)
    have hdb := (hP (ix (P v 4)) (by omega)).2.2.2.2
    refine am_aload_n (i := 0) dC_workedCell_124 rfl rfl ?_
    refine am_aload_n (i := 1) dC_workedCell_125 rfl rfl ?_
    refine am_getf dC_workedCell_126 flC_132 (by first | rfl | exact sk8 (by omega) | exact sk9 (by omega) | exact sk10 (by omega) | exact sk11 (by omega)) rfl ?_
    refine am_iload_n (i := 2) dC_workedCell_129 rfl rfl ?_
    refine am_iload_n (i := 3) dC_workedCell_130 rfl rfl ?_
    refine am_callV (ac' := 0) (as' := 0) (xs := [_, _, _]) dC_workedCell_131 lkC_125 (by first | rfl | exact sk8 (by omega) | exact sk9 (by omega) | exact sk10 (by omega) | exact sk11 (by omega)) rfl rfl rfl rfl (Nat.le_of_ble_eq_true rfl) rfl rfl (cC_cellAt (i0 := i0) (j0 := j0) (by omega) e3 rfl rfl hda (by omega) (by omega) (fun x ex => ?_))
    refine am_aload_n (i := 0) dC_workedCell_134 rfl rfl ?_
    refine am_aload_n (i := 1) dC_workedCell_135 rfl rfl ?_
    refine am_getf dC_workedCell_136 flC_135 (by first | rfl | exact sk8 (by omega) | exact sk9 (by omega) | exact sk10 (by omega) | exact sk11 (by omega)) rfl ?_
    refine am_iload_n (i := 2) dC_workedCell_139 rfl rfl ?_
    refine am_iload_n (i := 3) dC_workedCell_140 rfl rfl ?_
    refine am_callV (ac' := 0) (as' := 0) (xs := [_, _, _]) dC_workedCell_141 lkC_125 (by first | rfl | exact sk8 (by omega) | exact sk9 (by omega) | exact sk10 (by omega) | exact sk11 (by omega)) rfl rfl rfl rfl (Nat.le_of_ble_eq_true rfl) rfl rfl (cC_cellAt (i0 := i0) (j0 := j0) (by omega) e4 rfl rfl hdb (by omega) (by omega) (fun y ey => ?_))
    refine am_imul dC_workedCell_144 ?_
    refine am_iret (st := []) rfl rfl dC_workedCell_145 ?_
    exact k _ (by unfold q_wc; grind)
  · refine am_tableIn (off := 142) (tgt := 146) dC_workedCell_4 (by rw [s4]; decide) (by rw [s4]; decide) (by rw [s4]; rfl) (by decide) ?_
    obtain ⟨g3, e3⟩ := hb3.ix (hb5 (k2_of _ s4 (by decide))) (by omega)
    have hda1 := (hP (ix (P v 3)) (by omega)).2.2.2.1
    have hda := (hP (ix (P v 3)) (by omega)).2.2.2.2
    obtain ⟨g4, e4⟩ := hb4.ix (hb6 (by grind)) (by omega)
    have hdb := (hP (ix (P v 4)) (by omega)).2.2.2.2
    refine am_aload_n (i := 0) dC_workedCell_146 rfl rfl ?_
    refine am_aload_n (i := 1) dC_workedCell_147 rfl rfl ?_
    refine am_getf dC_workedCell_148 flC_132 (by first | rfl | exact sk8 (by omega) | exact sk9 (by omega) | exact sk10 (by omega) | exact sk11 (by omega)) rfl ?_
    refine am_iload_n (i := 2) dC_workedCell_151 rfl rfl ?_
    refine am_iload_n (i := 3) dC_workedCell_152 rfl rfl ?_
    refine am_callV (ac' := 0) (as' := 0) (xs := [_, _, _]) dC_workedCell_153 lkC_125 (by first | rfl | exact sk8 (by omega) | exact sk9 (by omega) | exact sk10 (by omega) | exact sk11 (by omega)) rfl rfl rfl rfl (Nat.le_of_ble_eq_true rfl) rfl rfl (cC_cellAt (i0 := i0) (j0 := j0) (by omega) e3 rfl rfl hda (by omega) (by omega) (fun x ex => ?_))
    refine am_aload_n (i := 0) dC_workedCell_156 rfl rfl ?_
    refine am_aload_n (i := 1) dC_workedCell_157 rfl rfl ?_
    refine am_getf dC_workedCell_158 flC_135 (by first | rfl | exact sk8 (by omega) | exact sk9 (by omega) | exact sk10 (by omega) | exact sk11 (by omega)) rfl ?_
    refine am_iload_n (i := 2) dC_workedCell_161 rfl rfl ?_
    refine am_iload_n (i := 3) dC_workedCell_162 rfl rfl ?_
    refine am_callV (ac' := 0) (as' := 0) (xs := [_, _, _]) dC_workedCell_163 lkC_125 (by first | rfl | exact sk8 (by omega) | exact sk9 (by omega) | exact sk10 (by omega) | exact sk11 (by omega)) rfl rfl rfl rfl (Nat.le_of_ble_eq_true rfl) rfl rfl (cC_cellAt (i0 := i0) (j0 := j0) (by omega) e4 rfl rfl hdb (by omega) (by omega) (fun y ey => ?_))
    refine am_mmax dC_workedCell_166 mxC_193 mx_st mx_in mx_cd (by omega) (Nat.le_of_ble_eq_true rfl) ?_
    refine am_iret (st := []) rfl rfl dC_workedCell_169 ?_
    exact k _ (by unfold q_wc; grind)
  · refine am_tableIn (off := 166) (tgt := 170) dC_workedCell_4 (by rw [s4]; decide) (by rw [s4]; decide) (by rw [s4]; rfl) (by decide) ?_
    obtain ⟨g3, e3⟩ := hb3.ix (hb5 (k2_of _ s4 (by decide))) (by omega)
    have hda1 := (hP (ix (P v 3)) (by omega)).2.2.2.1
    have hda := (hP (ix (P v 3)) (by omega)).2.2.2.2
    refine am_aload_n (i := 0) dC_workedCell_170 rfl rfl ?_
    refine am_aload_n (i := 1) dC_workedCell_171 rfl rfl ?_
    refine am_getf dC_workedCell_172 flC_132 (by first | rfl | exact sk8 (by omega) | exact sk9 (by omega) | exact sk10 (by omega) | exact sk11 (by omega)) rfl ?_
    refine am_iload_n (i := 2) dC_workedCell_175 rfl rfl ?_
    refine am_iload_n (i := 3) dC_workedCell_176 rfl rfl ?_
    refine am_callV (ac' := 0) (as' := 0) (xs := [_, _, _]) dC_workedCell_177 lkC_125 (by first | rfl | exact sk8 (by omega) | exact sk9 (by omega) | exact sk10 (by omega) | exact sk11 (by omega)) rfl rfl rfl rfl (Nat.le_of_ble_eq_true rfl) rfl rfl (cC_cellAt (i0 := i0) (j0 := j0) (by omega) e3 rfl rfl hda (by omega) (by omega) (fun x ex => ?_))
    refine am_ineg dC_workedCell_180 ?_
    refine am_iret (st := []) rfl rfl dC_workedCell_181 ?_
    exact k _ (by unfold q_wc; grind)
  · refine am_tableIn (off := 178) (tgt := 182) dC_workedCell_4 (by rw [s4]; decide) (by rw [s4]; decide) (by rw [s4]; rfl) (by decide) ?_
    obtain ⟨g3, e3⟩ := hb3.ix (hb5 (k2_of _ s4 (by decide))) (by omega)
    have hda1 := (hP (ix (P v 3)) (by omega)).2.2.2.1
    have hda := (hP (ix (P v 3)) (by omega)).2.2.2.2
    refine am_aload_n (i := 0) dC_workedCell_182 rfl rfl ?_
    refine am_aload_n (i := 1) dC_workedCell_183 rfl rfl ?_
    refine am_getf dC_workedCell_184 flC_132 (by first | rfl | exact sk8 (by omega) | exact sk9 (by omega) | exact sk10 (by omega) | exact sk11 (by omega)) rfl ?_
    refine am_iload_n (i := 3) dC_workedCell_187 rfl rfl ?_
    refine am_iload_n (i := 2) dC_workedCell_188 rfl rfl ?_
    refine am_callV (ac' := 0) (as' := 0) (xs := [_, _, _]) dC_workedCell_189 lkC_125 (by first | rfl | exact sk8 (by omega) | exact sk9 (by omega) | exact sk10 (by omega) | exact sk11 (by omega)) rfl rfl rfl rfl (Nat.le_of_ble_eq_true rfl) rfl rfl (cC_cellAt (i0 := j0) (j0 := i0) (by omega) e3 rfl rfl hda (by omega) (by omega) (fun x ex => ?_))
    refine am_iret (st := []) rfl rfl dC_workedCell_192 ?_
    exact k _ (by unfold q_wc; grind)
  · refine am_tableIn (off := 189) (tgt := 193) dC_workedCell_4 (by rw [s4]; decide) (by rw [s4]; decide) (by rw [s4]; rfl) (by decide) ?_
    obtain ⟨g3, e3⟩ := hb3.ix (hb5 (k2_of _ s4 (by decide))) (by omega)
    have hda1 := (hP (ix (P v 3)) (by omega)).2.2.2.1
    have hda := (hP (ix (P v 3)) (by omega)).2.2.2.2
    obtain ⟨g4, e4⟩ := hb4.ix (hb6 (by grind)) (by omega)
    have hdb := (hP (ix (P v 4)) (by omega)).2.2.2.2
    obtain ⟨m1, m2, m3⟩ := q_dim_pos hda
    refine am_aload_n (i := 0) dC_workedCell_193 rfl rfl ?_
    refine am_aload_n (i := 1) dC_workedCell_194 rfl rfl ?_
    refine am_iload_n (i := 2) dC_workedCell_195 rfl rfl ?_
    refine am_iload_n (i := 3) dC_workedCell_196 rfl rfl ?_
    refine am_callV (ac' := 0) (as' := 0) (xs := [_, _, _]) dC_workedCell_197 lkC_208 (by first | rfl | exact sk8 (by omega) | exact sk9 (by omega) | exact sk10 (by omega) | exact sk11 (by omega)) rfl rfl rfl rfl (Nat.le_of_ble_eq_true rfl) rfl rfl (cC_dotCell (m := ix (P (ix (P v 3)) 2)) (by omega) (by omega) e3 (by omega) e4 hda hdb (by omega) (by omega) m3 m2 (fun x ex => ?_))
    refine am_iret (st := []) rfl rfl dC_workedCell_200 ?_
    exact k _ (by unfold q_wc; grind)
  · refine am_tableIn (off := 197) (tgt := 201) dC_workedCell_4 (by rw [s4]; decide) (by rw [s4]; decide) (by rw [s4]; rfl) (by decide) ?_
    obtain ⟨g3, e3⟩ := hb3.ix (hb5 (k2_of _ s4 (by decide))) (by omega)
    have hda1 := (hP (ix (P v 3)) (by omega)).2.2.2.1
    have hda := (hP (ix (P v 3)) (by omega)).2.2.2.2
    obtain ⟨m1, m2, m3⟩ := q_dim_pos hda
    obtain ⟨l1, l2, l3⟩ := q_dim_pos hda1
    refine am_aload_n (i := 1) dC_workedCell_201 rfl rfl ?_
    refine am_getf dC_workedCell_202 flC_138 (by first | rfl | exact sk8 (by omega) | exact sk9 (by omega) | exact sk10 (by omega) | exact sk11 (by omega)) rfl ?_
    refine am_if_ne (tgt := 220) dC_workedCell_205 (by decide) (fun c205 => ?_) (fun c205 => ?_)
    · refine am_aload_n (i := 0) dC_workedCell_220 rfl rfl ?_
      refine am_aload_n (i := 1) dC_workedCell_221 rfl rfl ?_
      refine am_getf dC_workedCell_222 flC_132 (by first | rfl | exact sk8 (by omega) | exact sk9 (by omega) | exact sk10 (by omega) | exact sk11 (by omega)) rfl ?_
      refine am_iload_n (i := 2) dC_workedCell_225 rfl rfl ?_
      refine am_callV (ac' := 0) (as' := 0) (xs := [_, _]) dC_workedCell_226 lkC_214 (by first | rfl | exact sk8 (by omega) | exact sk9 (by omega) | exact sk10 (by omega) | exact sk11 (by omega)) rfl rfl rfl rfl (Nat.le_of_ble_eq_true rfl) rfl rfl (cC_sumOfRow (i0 := i0) (m := ix (P (ix (P v 3)) 2)) (by omega) e3 rfl hda (by omega) m3 m2 (fun x ex => ?_))
      refine am_iret (st := []) rfl rfl dC_workedCell_229 ?_
      exact k _ (by unfold q_wc; grind)
    · refine am_aload_n (i := 0) dC_workedCell_208 rfl rfl ?_
      refine am_aload_n (i := 1) dC_workedCell_209 rfl rfl ?_
      refine am_getf dC_workedCell_210 flC_132 (by first | rfl | exact sk8 (by omega) | exact sk9 (by omega) | exact sk10 (by omega) | exact sk11 (by omega)) rfl ?_
      refine am_iload_n (i := 3) dC_workedCell_213 rfl rfl ?_
      refine am_callV (ac' := 0) (as' := 0) (xs := [_, _]) dC_workedCell_214 lkC_211 (by first | rfl | exact sk8 (by omega) | exact sk9 (by omega) | exact sk10 (by omega) | exact sk11 (by omega)) rfl rfl rfl rfl (Nat.le_of_ble_eq_true rfl) rfl rfl (cC_sumOfColumn (j0 := j0) (m := ix (P (ix (P v 3)) 1)) (by omega) e3 rfl hda (by omega) l3 l2 (fun x ex => ?_))
      refine am_goto (tgt := 229) dC_workedCell_217 (by decide) ?_
      refine am_iret (st := []) rfl rfl dC_workedCell_229 ?_
      exact k _ (by unfold q_wc; grind)
  · refine am_tableIn (off := 226) (tgt := 230) dC_workedCell_4 (by rw [s4]; decide) (by rw [s4]; decide) (by rw [s4]; rfl) (by decide) ?_
    obtain ⟨g3, e3⟩ := hb3.ix (hb5 (k2_of _ s4 (by decide))) (by omega)
    have hda1 := (hP (ix (P v 3)) (by omega)).2.2.2.1
    have hda := (hP (ix (P v 3)) (by omega)).2.2.2.2
    refine am_aload_n (i := 0) dC_workedCell_230 rfl rfl ?_
    refine am_aload_n (i := 1) dC_workedCell_231 rfl rfl ?_
    refine am_getf dC_workedCell_232 flC_132 (by first | rfl | exact sk8 (by omega) | exact sk9 (by omega) | exact sk10 (by omega) | exact sk11 (by omega)) rfl ?_
    refine am_iload_n (i := 2) dC_workedCell_235 rfl rfl ?_
    refine am_iload_n (i := 3) dC_workedCell_236 rfl rfl ?_
    refine am_callV (ac' := 0) (as' := 0) (xs := [_, _, _]) dC_workedCell_237 lkC_217 (by first | rfl | exact sk8 (by omega) | exact sk9 (by omega) | exact sk10 (by omega) | exact sk11 (by omega)) rfl rfl rfl rfl (Nat.le_of_ble_eq_true rfl) rfl rfl (cC_spreadCell (i0 := i0) (j0 := j0) (by omega) e3 rfl rfl hda (by omega) (by omega) (fun x ex => ?_))
    refine am_iret (st := []) rfl rfl dC_workedCell_240 ?_
    exact k _ (by unfold q_wc; rw [s4]; exact ex)
  · refine am_tableIn (off := 237) (tgt := 241) dC_workedCell_4 (by rw [s4]; decide) (by rw [s4]; decide) (by rw [s4]; rfl) (by decide) ?_
    obtain ⟨g3, e3⟩ := hb3.ix (hb5 (k2_of _ s4 (by decide))) (by omega)
    have hda1 := (hP (ix (P v 3)) (by omega)).2.2.2.1
    have hda := (hP (ix (P v 3)) (by omega)).2.2.2.2
    refine am_aload_n (i := 0) dC_workedCell_241 rfl rfl ?_
    refine am_getf dC_workedCell_242 flC_31 (by first | rfl | exact sk8 (by omega) | exact sk9 (by omega) | exact sk10 (by omega) | exact sk11 (by omega)) rfl ?_
    refine am_aload_n (i := 1) dC_workedCell_245 rfl rfl ?_
    refine am_getf dC_workedCell_246 flC_132 (by first | rfl | exact sk8 (by omega) | exact sk9 (by omega) | exact sk10 (by omega) | exact sk11 (by omega)) rfl ?_
    refine am_aald dC_workedCell_249 (by first | rfl | exact sk8 (by omega) | exact sk9 (by omega) | exact sk10 (by omega) | exact sk11 (by omega)) e3 (by first | omega | assumption | decide) (by decide) (by decide) rfl rfl ?_
    refine am_iload_n (i := 2) dC_workedCell_250 rfl rfl ?_
    refine am_aload_n (i := 1) dC_workedCell_251 rfl rfl ?_
    refine am_getf dC_workedCell_252 flC_89 (by first | rfl | exact sk8 (by omega) | exact sk9 (by omega) | exact sk10 (by omega) | exact sk11 (by omega)) rfl ?_
    refine am_imul dC_workedCell_255 ?_
    refine am_iload_n (i := 3) dC_workedCell_256 rfl rfl ?_
    refine am_iadd dC_workedCell_257 ?_
    refine am_iald dC_workedCell_258 (by first | rfl | exact sk8 (by omega) | exact sk9 (by omega) | exact sk10 (by omega) | exact sk11 (by omega)) (show nI i0 * P v 2 + nI j0 = nI (i0 * ix (P v 2) + j0) from (congrArg (fun z => nI i0 * z + nI j0) c3).trans (nI_ij _ _ _)) (q_b16 (by omega) c2 (by omega)) (by decide) (by decide) rfl ?_
    refine am_iret (st := []) rfl rfl dC_workedCell_259 ?_
    exact k _ (by unfold q_wc; rw [s4]; rfl)
  · refine am_tableOut (tgt := 260) dC_workedCell_4 s4 (by decide) ?_
    have s12 : P v 0 = 12 := q_kind12 hkd s4
    obtain ⟨g3, e3⟩ := hb3.ix (hb5 (k2_of _ s12 (by decide))) (by omega)
    have hda1 := (hP (ix (P v 3)) (by omega)).2.2.2.1
    have hda := (hP (ix (P v 3)) (by omega)).2.2.2.2
    obtain ⟨p0, q0, ep0, eq0, lp, lq⟩ := hcom.2.2.2.2.2.2.2.1 s12
    obtain ⟨m1, m2, m3⟩ := q_dim_pos hda
    obtain ⟨l1, l2, l3⟩ := q_dim_pos hda1
    refine am_aload_n (i := 0) dC_workedCell_260 rfl rfl ?_
    refine am_aload_n (i := 1) dC_workedCell_261 rfl rfl ?_
    refine am_getf dC_workedCell_262 flC_132 (by first | rfl | exact sk8 (by omega) | exact sk9 (by omega) | exact sk10 (by omega) | exact sk11 (by omega)) rfl ?_
    refine am_aload_n (i := 1) dC_workedCell_265 rfl rfl ?_
    refine am_getf dC_workedCell_266 flC_138 (by first | rfl | exact sk8 (by omega) | exact sk9 (by omega) | exact sk10 (by omega) | exact sk11 (by omega)) rfl ?_
    refine am_iload_n (i := 2) dC_workedCell_269 rfl rfl ?_
    refine am_iadd dC_workedCell_270 ?_
    refine am_aload_n (i := 1) dC_workedCell_271 rfl rfl ?_
    refine am_getf dC_workedCell_272 flC_141 (by first | rfl | exact sk8 (by omega) | exact sk9 (by omega) | exact sk10 (by omega) | exact sk11 (by omega)) rfl ?_
    refine am_iload_n (i := 3) dC_workedCell_275 rfl rfl ?_
    refine am_iadd dC_workedCell_276 ?_
    refine am_callV (ac' := 0) (as' := 0) (xs := [_, _, _]) dC_workedCell_277 lkC_125 (by first | rfl | exact sk8 (by omega) | exact sk9 (by omega) | exact sk10 (by omega) | exact sk11 (by omega)) rfl rfl rfl rfl (Nat.le_of_ble_eq_true rfl) rfl rfl (cC_cellAt (i0 := (p0 + i0)) (j0 := (q0 + j0)) (by omega) e3 (by rw [ep0, nI_add]) (by rw [eq0, nI_add]) hda (by omega) (by omega) (fun x ex => ?_))
    refine am_iret (st := []) rfl rfl dC_workedCell_280 ?_
    exact k _ (by rw [q_wc12 s12, ep0, eq0, ix_nI (by omega), ix_nI (by omega)]; exact ex)
/-! the cells of a value don't tell its own row -/
theorem q_at_o {P cl cl' : Nat → Nat → Int32} {v a i j : Nat} (h : ∀ u, u ≠ v → ∀ k, cl' u k = cl u k) (ha : a ≠ v) : q_at P cl' a i j = q_at P cl a i j := h a ha _
theorem q_sum_c {f f' : Nat → Int32} (h : ∀ k, f' k = f k) (m : Nat) : q_sum f' m = q_sum f m := by rw [funext h]
theorem q_wc_o {P pr cl cl' : Nat → Nat → Int32} {v i j : Nat} (h : ∀ u, u ≠ v → ∀ k, cl' u k = cl u k) (hok : q_ok P v) (hv : v < 28) : q_wc P pr cl' v i j = q_wc P pr cl v i j := by
  obtain ⟨⟨b3, b4, b5, b6⟩, -, ⟨κ, hκ, eκ⟩, -⟩ := hok
  have ha : 2 < P v 0 → ix (P v 3) ≠ v := fun q e => by
    have := (b3.ix (b5 q) (by omega)).1
    omega
  have hb : (P v 0 = 3 ∨ P v 0 = 4 ∨ P v 0 = 5 ∨ P v 0 = 8) → ix (P v 4) ≠ v := fun q e => by
    have := (b4.ix (b6 q) (by omega)).1
    omega
  have A3 : 2 < P v 0 → ∀ x y, q_at P cl' (ix (P v 3)) x y = q_at P cl (ix (P v 3)) x y := fun q x y => q_at_o h (ha q)
  have A4 : (P v 0 = 3 ∨ P v 0 = 4 ∨ P v 0 = 5 ∨ P v 0 = 8) → ∀ x y, q_at P cl' (ix (P v 4)) x y = q_at P cl (ix (P v 4)) x y := fun q x y => q_at_o h (hb q)
  unfold q_wc
  by_cases hk0 : P v 0 = 0
  · rw [if_pos hk0, if_pos hk0]
  rw [if_neg hk0, if_neg hk0]
  by_cases hk1 : P v 0 = 1
  · rw [if_pos hk1, if_pos hk1]
  rw [if_neg hk1, if_neg hk1]
  by_cases hk2 : P v 0 = 2
  · rw [if_pos hk2, if_pos hk2]
  rw [if_neg hk2, if_neg hk2]
  by_cases hk3 : P v 0 = 3
  · rw [if_pos hk3, if_pos hk3]
    rw [A3 (k2_of 3 hk3 (by decide)), A4 (Or.inl hk3)]
  rw [if_neg hk3, if_neg hk3]
  by_cases hk4 : P v 0 = 4
  · rw [if_pos hk4, if_pos hk4]
    rw [A3 (k2_of 4 hk4 (by decide)), A4 (Or.inr (Or.inl hk4))]
  rw [if_neg hk4, if_neg hk4]
  by_cases hk5 : P v 0 = 5
  · rw [if_pos hk5, if_pos hk5]
    rw [A3 (k2_of 5 hk5 (by decide)), A4 (Or.inr (Or.inr (Or.inl hk5)))]
  rw [if_neg hk5, if_neg hk5]
  by_cases hk6 : P v 0 = 6
  · rw [if_pos hk6, if_pos hk6]
    rw [A3 (k2_of 6 hk6 (by decide))]
  rw [if_neg hk6, if_neg hk6]
  by_cases hk7 : P v 0 = 7
  · rw [if_pos hk7, if_pos hk7]
    rw [A3 (k2_of 7 hk7 (by decide))]
  rw [if_neg hk7, if_neg hk7]
  by_cases hk8 : P v 0 = 8
  · rw [if_pos hk8, if_pos hk8]
    exact q_sum_c (fun k => by rw [A3 (k2_of 8 hk8 (by decide)), A4 (Or.inr (Or.inr (Or.inr hk8)))]) _
  rw [if_neg hk8, if_neg hk8]
  by_cases hk9 : P v 0 = 9
  · rw [if_pos hk9, if_pos hk9]
    rw [q_sum_c (f := fun k => q_at P cl (ix (P v 3)) k j) (fun k => A3 (k2_of 9 hk9 (by decide)) _ _), q_sum_c (f := fun k => q_at P cl (ix (P v 3)) i k) (fun k => A3 (k2_of 9 hk9 (by decide)) _ _)]
  rw [if_neg hk9, if_neg hk9]
  by_cases hk10 : P v 0 = 10
  · rw [if_pos hk10, if_pos hk10]
    rw [A3 (k2_of 10 hk10 (by decide))]
  rw [if_neg hk10, if_neg hk10]
  by_cases hk11 : P v 0 = 11
  · rw [if_pos hk11, if_pos hk11]
    rw [h _ (ha (k2_of 11 hk11 (by decide)))]
  rw [if_neg hk11, if_neg hk11]
  have e12 : P v 0 = 12 := by
    rw [eκ] at hk0 hk1 hk2 hk3 hk4 hk5 hk6 hk7 hk8 hk9 hk10 hk11 ⊢
    have : κ = 12 := by
      rcases Nat.lt_or_ge κ 12 with q | q
      · exfalso
        match κ, q with
        | 0, _ => exact hk0 rfl
        | 1, _ => exact hk1 rfl
        | 2, _ => exact hk2 rfl
        | 3, _ => exact hk3 rfl
        | 4, _ => exact hk4 rfl
        | 5, _ => exact hk5 rfl
        | 6, _ => exact hk6 rfl
        | 7, _ => exact hk7 rfl
        | 8, _ => exact hk8 rfl
        | 9, _ => exact hk9 rfl
        | 10, _ => exact hk10 rfl
        | 11, _ => exact hk11 rfl
      · omega
    rw [this]
    rfl
  rw [A3 (k2_of 12 e12 (by decide))]
theorem q_divmod {i c j : Nat} (hj : j < c) : (i * c + j) / c = i ∧ (i * c + j) % c = j := by
  have hc : 0 < c := by omega
  rw [Nat.mul_comm]
  exact ⟨by rw [Nat.mul_add_div hc, Nat.div_eq_of_lt hj]; rfl, by rw [Nat.mul_add_mod, Nat.mod_eq_of_lt hj]⟩
def q_wp (P pr cl : Nat → Nat → Int32) (v m : Nat) : Nat → Nat → Int32 := fun u k => if u = v ∧ k < m then q_wc P pr cl v (k / ix (P v 2)) (k % ix (P v 2)) else cl u k
theorem q_wp_s {P pr cl : Nat → Nat → Int32} {v i j : Nat} {x : Int32} (hj : j < ix (P v 2)) (hx : x = q_wc P pr cl v i j) : up2 (q_wp P pr cl v (i * ix (P v 2) + j)) v (i * ix (P v 2) + j) x = q_wp P pr cl v (i * ix (P v 2) + (j + 1)) := by
  funext u k
  unfold up2 q_wp
  obtain ⟨d1, d2⟩ := q_divmod (i := i) hj
  by_cases h : u = v ∧ k = i * ix (P v 2) + j
  · rw [if_pos h, if_pos ⟨h.1, by omega⟩, h.2, d1, d2, hx]
  · rw [if_neg h]
    by_cases h2 : u = v ∧ k < i * ix (P v 2) + j
    · rw [if_pos h2, if_pos ⟨h2.1, by omega⟩]
    · rw [if_neg h2, if_neg (fun q => by
        rcases Nat.lt_or_ge k (i * ix (P v 2) + j) with z | z
        · exact h2 ⟨q.1, z⟩
        · exact h ⟨q.1, by omega⟩)]
set_option maxRecDepth 100000 in
set_option maxHeartbeats 4000000 in
theorem lpC_workOut1 {g : am_G} {d : Nat} {Q : Option am_V → am_H → Prop} {Y : Nat → Nat → Nat → am_V} {A P : Nat → Nat → Int32} {st mk lv : Nat → Int32} {cl pr : Nat → Nat → Int32} {us : Nat → Int32} {si wk : Int32} {n : Nat} {v : Nat} (hn : n ≤ 28) (hP : ∀ u, u < n → q_ok P u) (hv : v < n) {i : Nat} (hi : i < ix (P v 1)) (K : am_T g mC_workOut (d + 3) 0 0 59 [some (am_O 0 0), some (am_I (nI v)), some (am_O 9 v), some (am_I (nI i)), some (am_I (nI (ix (P v 2))))] [] (hm (xc A P st mk lv (q_wp P pr cl v (i * ix (P v 2) + ix (P v 2))) pr us (nI n) si wk) Y) Q) : ∀ (m j : Nat), j + m = ix (P v 2) → am_T g mC_workOut (d + 3) 0 0 20 [some (am_O 0 0), some (am_I (nI v)), some (am_O 9 v), some (am_I (nI i)), some (am_I (nI j))] [] (hm (xc A P st mk lv (q_wp P pr cl v (i * ix (P v 2) + j)) pr us (nI n) si wk) Y) Q := by
  obtain ⟨r1, r2, r3⟩ := q_dim_pos (hP v hv).2.2.2.1
  obtain ⟨c1, c2, c3⟩ := q_dim_pos (hP v hv).2.2.2.2
  intro m
  induction m with
  | zero =>
    intro j hj
    refine am_iload (i := 4) dC_workOut_20 rfl ?_
    refine am_aload_n (i := 2) dC_workOut_22 rfl rfl ?_
    refine am_getf dC_workOut_23 flC_89 (by first | rfl | exact sk8 (by omega) | exact sk9 (by omega) | exact sk10 (by omega) | exact sk11 (by omega)) rfl ?_
    refine am_icmp_ge_T (tgt := 59) dC_workOut_26 (by decide) (by rw [c3]; exact ((nI_le' (by omega) (by omega)).mpr (by omega))) ?_
    have e : j = ix (P v 2) := by omega
    subst e
    exact K
  | succ m ih =>
    intro j hj
    refine am_iload (i := 4) dC_workOut_20 rfl ?_
    refine am_aload_n (i := 2) dC_workOut_22 rfl rfl ?_
    refine am_getf dC_workOut_23 flC_89 (by first | rfl | exact sk8 (by omega) | exact sk9 (by omega) | exact sk10 (by omega) | exact sk11 (by omega)) rfl ?_
    refine am_icmp_ge_F (tgt := 59) dC_workOut_26 (by decide) (by rw [c3]; exact (fun q => absurd ((nI_le' (by omega) (by omega)).mp q) (by omega))) ?_
    refine am_aload_n (i := 0) dC_workOut_29 rfl rfl ?_
    refine am_getf dC_workOut_30 flC_31 (by first | rfl | exact sk8 (by omega) | exact sk9 (by omega) | exact sk10 (by omega) | exact sk11 (by omega)) rfl ?_
    refine am_iload_n (i := 1) dC_workOut_33 rfl rfl ?_
    refine am_aald dC_workOut_34 (by first | rfl | exact sk8 (by omega) | exact sk9 (by omega) | exact sk10 (by omega) | exact sk11 (by omega)) rfl (by first | omega | assumption | decide) (by decide) (by decide) rfl rfl ?_
    refine am_iload_n (i := 3) dC_workOut_35 rfl rfl ?_
    refine am_aload_n (i := 2) dC_workOut_36 rfl rfl ?_
    refine am_getf dC_workOut_37 flC_89 (by first | rfl | exact sk8 (by omega) | exact sk9 (by omega) | exact sk10 (by omega) | exact sk11 (by omega)) rfl ?_
    refine am_imul dC_workOut_40 ?_
    refine am_iload (i := 4) dC_workOut_41 rfl ?_
    refine am_iadd dC_workOut_43 ?_
    refine am_aload_n (i := 0) dC_workOut_44 rfl rfl ?_
    refine am_aload_n (i := 2) dC_workOut_45 rfl rfl ?_
    refine am_iload_n (i := 3) dC_workOut_46 rfl rfl ?_
    refine am_iload (i := 4) dC_workOut_47 rfl ?_
    refine am_callV (ac' := 0) (as' := 0) (xs := [_, _, _]) dC_workOut_49 lkC_204 (by first | rfl | exact sk8 (by omega) | exact sk9 (by omega) | exact sk10 (by omega) | exact sk11 (by omega)) rfl rfl rfl rfl (Nat.le_of_ble_eq_true rfl) rfl rfl (cC_workedCell hn hP hv (by omega) (by omega) (fun r er => ?_))
    refine am_iast' dC_workOut_52 (by first | rfl | exact sk8 (by omega) | exact sk9 (by omega) | exact sk10 (by omega) | exact sk11 (by omega)) (show nI i * P v 2 + nI j = nI (i * ix (P v 2) + j) from (congrArg (fun z => nI i * z + nI j) c3).trans (nI_ij _ _ _)) (q_b16 (by omega) c2 (by omega)) (by decide) (by decide) (by first | exact wx_st | exact wx_mk | exact wx_lv | exact wx_us | exact wx_A | exact wx_P | exact wx_cl | exact wx_pr | exact wx_va | exact wx_si | exact wx_wk) ?_
    refine am_iinc dC_workOut_53 rfl (by first | exact nI_1 _ | exact pk_m1 _ | rfl) (by decide) ?_
    refine am_goto (tgt := 20) dC_workOut_56 (by decide) ?_
    refine am_hT (h' := (hm (xc A P st mk lv (q_wp P pr cl v (i * ix (P v 2) + (j + 1))) pr us (nI n) si wk) Y)) ?_ (ih (j + 1) (by omega))
    rw [q_wp_s (by omega) (er.trans (q_wc_o (fun u hu k => if_neg (fun q => hu q.1)) (hP v hv) (by omega)))]
set_option maxRecDepth 100000 in
set_option maxHeartbeats 4000000 in
theorem lpC_workOut2 {g : am_G} {d : Nat} {Q : Option am_V → am_H → Prop} {Y : Nat → Nat → Nat → am_V} {A P : Nat → Nat → Int32} {st mk lv : Nat → Int32} {cl pr : Nat → Nat → Int32} {us : Nat → Int32} {si wk : Int32} {n : Nat} {v : Nat} (hn : n ≤ 28) (hP : ∀ u, u < n → q_ok P u) (hv : v < n) (K : Q none (hm (xc A P st mk lv (q_wo P pr cl v) pr us (nI n) si wk) Y)) : ∀ (m i : Nat), i + m = ix (P v 1) → ∀ o : Option am_V, am_T g mC_workOut (d + 3) 0 0 9 [some (am_O 0 0), some (am_I (nI v)), some (am_O 9 v), some (am_I (nI i)), o] [] (hm (xc A P st mk lv (q_wp P pr cl v (i * ix (P v 2))) pr us (nI n) si wk) Y) Q := by
  obtain ⟨r1, r2, r3⟩ := q_dim_pos (hP v hv).2.2.2.1
  obtain ⟨c1, c2, c3⟩ := q_dim_pos (hP v hv).2.2.2.2
  intro m
  induction m with
  | zero =>
    intro i hi o
    refine am_iload_n (i := 3) dC_workOut_9 rfl rfl ?_
    refine am_aload_n (i := 2) dC_workOut_10 rfl rfl ?_
    refine am_getf dC_workOut_11 flC_83 (by first | rfl | exact sk8 (by omega) | exact sk9 (by omega) | exact sk10 (by omega) | exact sk11 (by omega)) rfl ?_
    refine am_icmp_ge_T (tgt := 65) dC_workOut_14 (by decide) (by rw [r3]; exact ((nI_le' (by omega) (by omega)).mpr (by omega))) ?_
    refine am_vret (st := []) rfl dC_workOut_65 ?_
    have e : i = ix (P v 1) := by omega
    subst e
    exact K
  | succ m ih =>
    intro i hi o
    refine am_iload_n (i := 3) dC_workOut_9 rfl rfl ?_
    refine am_aload_n (i := 2) dC_workOut_10 rfl rfl ?_
    refine am_getf dC_workOut_11 flC_83 (by first | rfl | exact sk8 (by omega) | exact sk9 (by omega) | exact sk10 (by omega) | exact sk11 (by omega)) rfl ?_
    refine am_icmp_ge_F (tgt := 65) dC_workOut_14 (by decide) (by rw [r3]; exact (fun q => absurd ((nI_le' (by omega) (by omega)).mp q) (by omega))) ?_
    refine am_iconst (v := 0) dC_workOut_17 (by decide) ?_
    refine am_istore (i := 4) dC_workOut_18 (by decide) ?_
    refine lpC_workOut1 hn hP hv (by omega) ?_ (ix (P v 2)) 0 (by omega)
    refine am_iinc dC_workOut_59 rfl (by first | exact nI_1 _ | exact pk_m1 _ | rfl) (by decide) ?_
    refine am_goto (tgt := 9) dC_workOut_62 (by decide) ?_
    refine am_hT (h' := (hm (xc A P st mk lv (q_wp P pr cl v ((i + 1) * ix (P v 2))) pr us (nI n) si wk) Y)) ?_ (ih (i + 1) (by omega) _)
    rw [Nat.succ_mul]
set_option maxRecDepth 100000 in
set_option maxHeartbeats 4000000 in
theorem cC_workOut {g : am_G} {d : Nat} {Q : Option am_V → am_H → Prop} {Y : Nat → Nat → Nat → am_V} {A P : Nat → Nat → Int32} {st mk lv : Nat → Int32} {cl pr : Nat → Nat → Int32} {us : Nat → Int32} {si wk : Int32} {n : Nat} {v : Nat} (hn : n ≤ 28) (hP : ∀ u, u < n → q_ok P u) (hv : v < n) (k : Q none (hm (xc A P st mk lv (q_wo P pr cl v) pr us (nI n) si wk) Y)) : am_C g mC_workOut (d + 3) 0 0 [am_O 0 0, am_I (nI v)] (hm (xc A P st mk lv cl pr us (nI n) si wk) Y) Q := by
  refine am_enter (lv := [some (am_O 0 0), some (am_I (nI v)), none, none, none]) rfl rfl (am_cat1 rfl) (Nat.le_of_ble_eq_true rfl) ?_
  refine am_aload_n (i := 0) dC_workOut_0 rfl rfl ?_
  refine am_getf dC_workOut_1 flC_15 (by first | rfl | exact sk8 (by omega) | exact sk9 (by omega) | exact sk10 (by omega) | exact sk11 (by omega)) rfl ?_
  refine am_iload_n (i := 1) dC_workOut_4 rfl rfl ?_
  refine am_aald dC_workOut_5 (by first | rfl | exact sk8 (by omega) | exact sk9 (by omega) | exact sk10 (by omega) | exact sk11 (by omega)) rfl (by first | omega | assumption | decide) (by decide) (by decide) rfl rfl ?_
  refine am_astore_n (i := 2) dC_workOut_6 rfl (by decide) ?_
  refine am_iconst (v := 0) dC_workOut_7 (by decide) ?_
  refine am_istore_n (i := 3) dC_workOut_8 rfl (by decide) ?_
  refine am_hT (h' := (hm (xc A P st mk lv (q_wp P pr cl v (0 * ix (P v 2))) pr us (nI n) si wk) Y)) ?_ (lpC_workOut2 hn hP hv k (ix (P v 1)) 0 (by omega) none)
  congr 2
  funext u z
  unfold q_wp
  rw [if_neg (fun q => by omega)]
set_option maxRecDepth 100000 in
set_option maxHeartbeats 4000000 in
theorem lpC_work {g : am_G} {d : Nat} {Q : Option am_V → am_H → Prop} {Y : Nat → Nat → Nat → am_V} {A P : Nat → Nat → Int32} {st mk lv : Nat → Int32} {cl pr : Nat → Nat → Int32} {us : Nat → Int32} {si wk : Int32} {n : Nat} (hn : n ≤ 28) (hP : ∀ u, u < n → q_ok P u) (K : am_T g mC_work (d + 4) 0 0 30 [some (am_O 0 0), some (am_I (nI n))] [] (hm (xc A P st mk lv (q_wk P pr lv cl n) pr us (nI n) si wk) Y) Q) : ∀ (j i : Nat), i + j = n → am_T g mC_work (d + 4) 0 0 2 [some (am_O 0 0), some (am_I (nI i))] [] (hm (xc A P st mk lv (q_wk P pr lv cl i) pr us (nI n) si wk) Y) Q := by
  intro j
  induction j with
  | zero =>
    intro i hi
    refine am_iload_n (i := 1) dC_work_2 rfl rfl ?_
    refine am_aload_n (i := 0) dC_work_3 rfl rfl ?_
    refine am_getf dC_work_4 flC_40 (by first | rfl | exact sk8 (by omega) | exact sk9 (by omega) | exact sk10 (by omega) | exact sk11 (by omega)) rfl ?_
    refine am_icmp_ge_T (tgt := 30) dC_work_7 (by decide) ((nI_le' (by omega) (by omega)).mpr (by omega)) ?_
    have e : i = n := by omega
    subst e
    exact K
  | succ j ih =>
    intro i hi
    refine am_iload_n (i := 1) dC_work_2 rfl rfl ?_
    refine am_aload_n (i := 0) dC_work_3 rfl rfl ?_
    refine am_getf dC_work_4 flC_40 (by first | rfl | exact sk8 (by omega) | exact sk9 (by omega) | exact sk10 (by omega) | exact sk11 (by omega)) rfl ?_
    refine am_icmp_ge_F (tgt := 30) dC_work_7 (by decide) (fun q => absurd ((nI_le' (by omega) (by omega)).mp q) (by omega)) ?_
    refine am_aload_n (i := 0) dC_work_10 rfl rfl ?_
    refine am_getf dC_work_11 flC_26 (by first | rfl | exact sk8 (by omega) | exact sk9 (by omega) | exact sk10 (by omega) | exact sk11 (by omega)) rfl ?_
    refine am_iload_n (i := 1) dC_work_14 rfl rfl ?_
    refine am_zald dC_work_15 (by first | rfl | exact sk8 (by omega) | exact sk9 (by omega) | exact sk10 (by omega) | exact sk11 (by omega)) rfl (by first | omega | assumption | decide) (by decide) (by decide) rfl ?_
    refine am_if_eq (tgt := 24) dC_work_16 (by decide) (fun c16 => ?_) (fun c16 => ?_)
    · refine am_iinc dC_work_24 rfl (by first | exact nI_1 _ | exact pk_m1 _ | rfl) (by decide) ?_
      refine am_goto (tgt := 2) dC_work_27 (by decide) ?_
      refine am_hT (h' := (hm (xc A P st mk lv (q_wk P pr lv cl (i + 1)) pr us (nI n) si wk) Y)) ?_ (ih (i + 1) (by omega))
      congr 2
      exact (show q_wk P pr lv cl (i + 1) = _ by first | exact if_pos c16 | exact if_neg c16).symm
    · refine am_aload_n (i := 0) dC_work_19 rfl rfl ?_
      refine am_iload_n (i := 1) dC_work_20 rfl rfl ?_
      refine am_callV (ac' := 0) (as' := 0) (xs := [_]) dC_work_21 lkC_115 (by first | rfl | exact sk8 (by omega) | exact sk9 (by omega) | exact sk10 (by omega) | exact sk11 (by omega)) rfl rfl rfl rfl (Nat.le_of_ble_eq_true rfl) rfl rfl (cC_workOut hn hP (by omega) ?_)
      refine am_iinc dC_work_24 rfl (by first | exact nI_1 _ | exact pk_m1 _ | rfl) (by decide) ?_
      refine am_goto (tgt := 2) dC_work_27 (by decide) ?_
      refine am_hT (h' := (hm (xc A P st mk lv (q_wk P pr lv cl (i + 1)) pr us (nI n) si wk) Y)) ?_ (ih (i + 1) (by omega))
      congr 2
      exact (show q_wk P pr lv cl (i + 1) = _ by first | exact if_pos c16 | exact if_neg c16).symm
set_option maxRecDepth 100000 in
set_option maxHeartbeats 4000000 in
theorem cC_work {g : am_G} {d : Nat} {Q : Option am_V → am_H → Prop} {Y : Nat → Nat → Nat → am_V} {A P : Nat → Nat → Int32} {st mk lv : Nat → Int32} {cl pr : Nat → Nat → Int32} {us : Nat → Int32} {si wk : Int32} {n : Nat} (hn : n ≤ 28) (hP : ∀ u, u < n → q_ok P u) (k : Q (some (am_I (q_wsum P lv n))) (hm (xc A P st mk lv (q_wk P pr lv cl n) pr us (nI n) si 1) Y)) : am_C g mC_work (d + 4) 0 0 [am_O 0 0] (hm (xc A P st mk lv cl pr us (nI n) si wk) Y) Q := by
  refine am_enter (lv := [some (am_O 0 0), none]) rfl rfl (am_cat1 rfl) (Nat.le_of_ble_eq_true rfl) ?_
  refine am_iconst (v := 0) dC_work_0 (by decide) ?_
  refine am_istore_n (i := 1) dC_work_1 rfl (by decide) ?_
  refine am_hT (h' := (hm (xc A P st mk lv (q_wk P pr lv cl 0) pr us (nI n) si wk) Y)) rfl (lpC_work hn hP ?_ n 0 (by omega))
  refine am_aload_n (i := 0) dC_work_30 rfl rfl ?_
  refine am_iconst (v := 1) dC_work_31 (by decide) ?_
  refine am_putf' dC_work_32 flC_48 (by first | rfl | exact sk8 (by omega) | exact sk9 (by omega) | exact sk10 (by omega) | exact sk11 (by omega)) rfl (fun _ => ⟨rfl, rfl⟩) (by first | exact wx_st | exact wx_mk | exact wx_lv | exact wx_us | exact wx_A | exact wx_P | exact wx_cl | exact wx_pr | exact wx_va | exact wx_si | exact wx_wk) ?_
  refine am_aload_n (i := 0) dC_work_35 rfl rfl ?_
  refine am_callV (ac' := 0) (as' := 0) (xs := []) dC_work_36 lkC_119 (by first | rfl | exact sk8 (by omega) | exact sk9 (by omega) | exact sk10 (by omega) | exact sk11 (by omega)) rfl rfl rfl rfl (Nat.le_of_ble_eq_true rfl) rfl rfl (cC_workOfLive hn hP ?_)
  refine am_iret (st := []) rfl rfl dC_work_39 ?_
  exact k
theorem q_ixr {x y : Int32} (h0 : ¬ x < 0) (hy : q_dim y) (h1 : ¬ y ≤ x) : ∃ j, j < ix y ∧ x = nI j := by
  obtain ⟨a, b, e⟩ := q_dim_pos hy
  rcases pk_ix x (n := ix y) (by omega) with q | q | ⟨j, hj, ej⟩
  · exact absurd q h0
  · exact absurd (e ▸ q) h1
  · exact ⟨j, hj, ej⟩
theorem q_ixr' {x y : Int32} (h0 : ¬ x < 0) (hy : q_dim y) (h1 : x < y) : ∃ j, j < ix y ∧ x = nI j := q_ixr h0 hy (fun q => absurd h1 (Int32.not_lt.mpr q))
set_option maxRecDepth 100000 in
set_option maxHeartbeats 4000000 in
theorem cC_cell {g : am_G} {d : Nat} {Q : Option am_V → am_H → Prop} {Y : Nat → Nat → Nat → am_V} {A P : Nat → Nat → Int32} {st mk lv : Nat → Int32} {cl pr : Nat → Nat → Int32} {us : Nat → Int32} {si wk : Int32} {n : Nat} {x i j : Int32} (hn : n ≤ 28) (hP : ∀ u, u < n → q_ok P u) (kN : ¬ (q_val x n ∧ ¬ wk = 0 ∧ ¬ lv (ix x) = 0 ∧ ¬ i < 0 ∧ ¬ P (ix x) 1 ≤ i ∧ ¬ j < 0 ∧ j < P (ix x) 2) → Q (some (am_J (-1000000000000))) (hm (xc A P st mk lv cl pr us (nI n) si wk) Y)) (k : ∀ v i0 j0, v < n → x = nI v → ¬ wk = 0 → ¬ lv v = 0 → i = nI i0 → j = nI j0 → i0 < ix (P v 1) → j0 < ix (P v 2) → Q (some (am_J (q_at P cl v i0 j0).toInt64)) (hm (xc A P st mk lv cl pr us (nI n) si wk) Y)) : am_C g mC_cell (d + 1) 0 0 [am_O 0 0, am_I x, am_I i, am_I j] (hm (xc A P st mk lv cl pr us (nI n) si wk) Y) Q := by
  refine am_enter (lv := [some (am_O 0 0), some (am_I x), some (am_I i), some (am_I j)]) rfl rfl (am_cat1 rfl) (Nat.le_of_ble_eq_true rfl) ?_
  refine am_aload_n (i := 0) dC_cell_0 rfl rfl ?_
  refine am_iload_n (i := 1) dC_cell_1 rfl rfl ?_
  refine am_callV (ac' := 0) (as' := 0) (xs := [_]) dC_cell_2 lkC_67 (by first | rfl | exact sk8 (by omega) | exact sk9 (by omega) | exact sk10 (by omega) | exact sk11 (by omega)) rfl rfl rfl rfl (Nat.le_of_ble_eq_true rfl) rfl rfl (cC_isValue rfl hn (fun v hv ev => ?_) (fun nv => ?_))
  · refine am_if_eq_F (tgt := 24) dC_cell_5 (by decide) (by decide) ?_
    refine am_aload_n (i := 0) dC_cell_8 rfl rfl ?_
    refine am_getf dC_cell_9 flC_48 (by first | rfl | exact sk8 (by omega) | exact sk9 (by omega) | exact sk10 (by omega) | exact sk11 (by omega)) rfl ?_
    refine am_if_eq (tgt := 24) dC_cell_12 (by decide) (fun c12 => ?_) (fun c12 => ?_)
    · refine am_ldc2 dC_cell_24 klC_123 ?_
      refine am_lret (st := []) rfl dC_cell_27 ?_
      have exv : ix x = v := by rw [ev, ix_nI (by omega)]
      exact kN (by rw [exv]; grind)
    · refine am_aload_n (i := 0) dC_cell_15 rfl rfl ?_
      refine am_getf dC_cell_16 flC_26 (by first | rfl | exact sk8 (by omega) | exact sk9 (by omega) | exact sk10 (by omega) | exact sk11 (by omega)) rfl ?_
      refine am_iload_n (i := 1) dC_cell_19 rfl rfl ?_
      refine am_zald dC_cell_20 (by first | rfl | exact sk8 (by omega) | exact sk9 (by omega) | exact sk10 (by omega) | exact sk11 (by omega)) ev (by first | omega | assumption | decide) (by decide) (by decide) rfl ?_
      refine am_if_ne (tgt := 28) dC_cell_21 (by decide) (fun c21 => ?_) (fun c21 => ?_)
      · refine am_iload_n (i := 2) dC_cell_28 rfl rfl ?_
        refine am_if_lt (tgt := 62) dC_cell_29 (by decide) (fun c29 => ?_) (fun c29 => ?_)
        · refine am_ldc2 dC_cell_62 klC_123 ?_
          refine am_lret (st := []) rfl dC_cell_65 ?_
          have exv : ix x = v := by rw [ev, ix_nI (by omega)]
          exact kN (by rw [exv]; grind)
        · refine am_iload_n (i := 2) dC_cell_32 rfl rfl ?_
          refine am_aload_n (i := 0) dC_cell_33 rfl rfl ?_
          refine am_getf dC_cell_34 flC_15 (by first | rfl | exact sk8 (by omega) | exact sk9 (by omega) | exact sk10 (by omega) | exact sk11 (by omega)) rfl ?_
          refine am_iload_n (i := 1) dC_cell_37 rfl rfl ?_
          refine am_aald dC_cell_38 (by first | rfl | exact sk8 (by omega) | exact sk9 (by omega) | exact sk10 (by omega) | exact sk11 (by omega)) ev (by first | omega | assumption | decide) (by decide) (by decide) rfl rfl ?_
          refine am_getf dC_cell_39 flC_83 (by first | rfl | exact sk8 (by omega) | exact sk9 (by omega) | exact sk10 (by omega) | exact sk11 (by omega)) rfl ?_
          refine am_icmp_ge (tgt := 62) dC_cell_42 (by decide) (fun c42 => ?_) (fun c42 => ?_)
          · refine am_ldc2 dC_cell_62 klC_123 ?_
            refine am_lret (st := []) rfl dC_cell_65 ?_
            have exv : ix x = v := by rw [ev, ix_nI (by omega)]
            exact kN (by rw [exv]; grind)
          · refine am_iload_n (i := 3) dC_cell_45 rfl rfl ?_
            refine am_if_lt (tgt := 62) dC_cell_46 (by decide) (fun c46 => ?_) (fun c46 => ?_)
            · refine am_ldc2 dC_cell_62 klC_123 ?_
              refine am_lret (st := []) rfl dC_cell_65 ?_
              have exv : ix x = v := by rw [ev, ix_nI (by omega)]
              exact kN (by rw [exv]; grind)
            · refine am_iload_n (i := 3) dC_cell_49 rfl rfl ?_
              refine am_aload_n (i := 0) dC_cell_50 rfl rfl ?_
              refine am_getf dC_cell_51 flC_15 (by first | rfl | exact sk8 (by omega) | exact sk9 (by omega) | exact sk10 (by omega) | exact sk11 (by omega)) rfl ?_
              refine am_iload_n (i := 1) dC_cell_54 rfl rfl ?_
              refine am_aald dC_cell_55 (by first | rfl | exact sk8 (by omega) | exact sk9 (by omega) | exact sk10 (by omega) | exact sk11 (by omega)) ev (by first | omega | assumption | decide) (by decide) (by decide) rfl rfl ?_
              refine am_getf dC_cell_56 flC_89 (by first | rfl | exact sk8 (by omega) | exact sk9 (by omega) | exact sk10 (by omega) | exact sk11 (by omega)) rfl ?_
              refine am_icmp_lt (tgt := 66) dC_cell_59 (by decide) (fun c59 => ?_) (fun c59 => ?_)
              · obtain ⟨i0, hi0, ei0⟩ := q_ixr c29 (hP v hv).2.2.2.1 c42
                obtain ⟨j0, hj0, ej0⟩ := q_ixr' c46 (hP v hv).2.2.2.2 c59
                have t1 := (q_dim_pos (hP v hv).2.2.2.1).2.1
                have t2 := (q_dim_pos (hP v hv).2.2.2.2).2.1
                refine am_aload_n (i := 0) dC_cell_66 rfl rfl ?_
                refine am_iload_n (i := 1) dC_cell_67 rfl rfl ?_
                refine am_iload_n (i := 2) dC_cell_68 rfl rfl ?_
                refine am_iload_n (i := 3) dC_cell_69 rfl rfl ?_
                refine am_callV (ac' := 0) (as' := 0) (xs := [_, _, _]) dC_cell_70 lkC_125 (by first | rfl | exact sk8 (by omega) | exact sk9 (by omega) | exact sk10 (by omega) | exact sk11 (by omega)) rfl rfl rfl rfl (Nat.le_of_ble_eq_true rfl) rfl rfl (cC_cellAt (by omega) ev ei0 ej0 (hP v hv).2.2.2.2 (by omega) (by omega) (fun r er => ?_))
                refine am_i2l dC_cell_73 ?_
                refine am_lret (st := []) rfl dC_cell_74 ?_
                exact er ▸ k v i0 j0 hv ev c12 c21 ei0 ej0 hi0 hj0
              · refine am_ldc2 dC_cell_62 klC_123 ?_
                refine am_lret (st := []) rfl dC_cell_65 ?_
                have exv : ix x = v := by rw [ev, ix_nI (by omega)]
                exact kN (by rw [exv]; grind)
      · refine am_ldc2 dC_cell_24 klC_123 ?_
        refine am_lret (st := []) rfl dC_cell_27 ?_
        have exv : ix x = v := by rw [ev, ix_nI (by omega)]
        exact kN (by rw [exv]; grind)
  · refine am_if_eq_T (tgt := 24) dC_cell_5 (by decide) (by decide) ?_
    refine am_ldc2 dC_cell_24 klC_123 ?_
    refine am_lret (st := []) rfl dC_cell_27 ?_
    exact kN (fun q => q.1 nv)
