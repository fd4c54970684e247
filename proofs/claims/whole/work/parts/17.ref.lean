/-! ===== the reference's memory by the same tables ===== -/
def mkd (A P : Nat → Nat → Int32) (k : Nat) : Nat → Int32 := fun j => if j < 28 then P j k else A (j - 28) k
theorem mkd_lo {A P : Nat → Nat → Int32} {k v : Nat} (h : v < 28) : mkd A P k v = P v k := if_pos h
theorem mkd_hi {A P : Nat → Nat → Int32} {k v : Nat} (h : v < 28) : mkd A P k (28 + v) = A v k := by
  unfold mkd
  rw [if_neg (by omega), show 28 + v - 28 = v by omega]
def ym (A P : Nat → Nat → Int32) (st mk pa ce wd us : Nat → Int32) (va si : Int32) : Nat → Nat → Nat → am_V := yc (mkd A P 0) (mkd A P 3) (mkd A P 4) (mkd A P 5) (mkd A P 6) (fun v => P v 1) (fun v => P v 2) mk st pa ce wd us va si
theorem mkd_pl {A P : Nat → Nat → Int32} {k v : Nat} {x : Int32} (h : v < 28) : upd (mkd A P k) v x = mkd A (up2 P v k x) k := by
  funext j
  unfold upd mkd up2
  grind
theorem mkd_po {A P : Nat → Nat → Int32} {k m v : Nat} {x : Int32} (h : m ≠ k) : mkd A (up2 P v k x) m = mkd A P m := by
  funext j
  unfold mkd up2
  grind
theorem mkd_al {A P : Nat → Nat → Int32} {k v : Nat} {x : Int32} (h : v < 28) : upd (mkd A P k) (28 + v) x = mkd (up2 A v k x) P k := by
  funext j
  unfold upd mkd up2
  grind
theorem mkd_ao {A P : Nat → Nat → Int32} {k m v : Nat} {x : Int32} (h : m ≠ k) : mkd (up2 A v k x) P m = mkd A P m := by
  funext j
  unfold mkd up2
  grind
theorem wm_kd {X : Nat → Nat → Nat → am_V} {A P : Nat → Nat → Int32} {st mk pa ce wd us : Nat → Int32} {va si : Int32} {v : Nat} {x : Int32} (h : v < 28) : am_up (hm X (ym A P st mk pa ce wd us va si)) 21 0 v (am_I x) = hm X (ym A (up2 P v 0 x) st mk pa ce wd us va si) := by
  unfold ym
  rw [wy_kd, mkd_pl h, mkd_po (show 3 ≠ 0 by decide), mkd_po (show 4 ≠ 0 by decide), mkd_po (show 5 ≠ 0 by decide), mkd_po (show 6 ≠ 0 by decide)]
  congr 2
  · funext u
    exact (up2_k (show 1 ≠ 0 by decide)).symm
  · funext u
    exact (up2_k (show 2 ≠ 0 by decide)).symm
theorem wm_kh {X : Nat → Nat → Nat → am_V} {A P : Nat → Nat → Int32} {st mk pa ce wd us : Nat → Int32} {va si : Int32} {v : Nat} {x : Int32} (h : v < 28) : am_up (hm X (ym A P st mk pa ce wd us va si)) 21 0 (28 + v) (am_I x) = hm X (ym (up2 A v 0 x) P st mk pa ce wd us va si) := by
  unfold ym
  rw [wy_kd, mkd_al h, mkd_ao (show 3 ≠ 0 by decide), mkd_ao (show 4 ≠ 0 by decide), mkd_ao (show 5 ≠ 0 by decide), mkd_ao (show 6 ≠ 0 by decide)]
theorem wm_fi {X : Nat → Nat → Nat → am_V} {A P : Nat → Nat → Int32} {st mk pa ce wd us : Nat → Int32} {va si : Int32} {v : Nat} {x : Int32} (h : v < 28) : am_up (hm X (ym A P st mk pa ce wd us va si)) 22 0 v (am_I x) = hm X (ym A (up2 P v 3 x) st mk pa ce wd us va si) := by
  unfold ym
  rw [wy_fi, mkd_pl h, mkd_po (show 0 ≠ 3 by decide), mkd_po (show 4 ≠ 3 by decide), mkd_po (show 5 ≠ 3 by decide), mkd_po (show 6 ≠ 3 by decide)]
  congr 2
  · funext u
    exact (up2_k (show 1 ≠ 3 by decide)).symm
  · funext u
    exact (up2_k (show 2 ≠ 3 by decide)).symm
theorem wm_fh {X : Nat → Nat → Nat → am_V} {A P : Nat → Nat → Int32} {st mk pa ce wd us : Nat → Int32} {va si : Int32} {v : Nat} {x : Int32} (h : v < 28) : am_up (hm X (ym A P st mk pa ce wd us va si)) 22 0 (28 + v) (am_I x) = hm X (ym (up2 A v 3 x) P st mk pa ce wd us va si) := by
  unfold ym
  rw [wy_fi, mkd_al h, mkd_ao (show 0 ≠ 3 by decide), mkd_ao (show 4 ≠ 3 by decide), mkd_ao (show 5 ≠ 3 by decide), mkd_ao (show 6 ≠ 3 by decide)]
theorem wm_se {X : Nat → Nat → Nat → am_V} {A P : Nat → Nat → Int32} {st mk pa ce wd us : Nat → Int32} {va si : Int32} {v : Nat} {x : Int32} (h : v < 28) : am_up (hm X (ym A P st mk pa ce wd us va si)) 23 0 v (am_I x) = hm X (ym A (up2 P v 4 x) st mk pa ce wd us va si) := by
  unfold ym
  rw [wy_se, mkd_pl h, mkd_po (show 0 ≠ 4 by decide), mkd_po (show 3 ≠ 4 by decide), mkd_po (show 5 ≠ 4 by decide), mkd_po (show 6 ≠ 4 by decide)]
  congr 2
  · funext u
    exact (up2_k (show 1 ≠ 4 by decide)).symm
  · funext u
    exact (up2_k (show 2 ≠ 4 by decide)).symm
theorem wm_sh {X : Nat → Nat → Nat → am_V} {A P : Nat → Nat → Int32} {st mk pa ce wd us : Nat → Int32} {va si : Int32} {v : Nat} {x : Int32} (h : v < 28) : am_up (hm X (ym A P st mk pa ce wd us va si)) 23 0 (28 + v) (am_I x) = hm X (ym (up2 A v 4 x) P st mk pa ce wd us va si) := by
  unfold ym
  rw [wy_se, mkd_al h, mkd_ao (show 0 ≠ 4 by decide), mkd_ao (show 3 ≠ 4 by decide), mkd_ao (show 5 ≠ 4 by decide), mkd_ao (show 6 ≠ 4 by decide)]
theorem wm_np {X : Nat → Nat → Nat → am_V} {A P : Nat → Nat → Int32} {st mk pa ce wd us : Nat → Int32} {va si : Int32} {v : Nat} {x : Int32} (h : v < 28) : am_up (hm X (ym A P st mk pa ce wd us va si)) 24 0 v (am_I x) = hm X (ym A (up2 P v 5 x) st mk pa ce wd us va si) := by
  unfold ym
  rw [wy_np, mkd_pl h, mkd_po (show 0 ≠ 5 by decide), mkd_po (show 3 ≠ 5 by decide), mkd_po (show 4 ≠ 5 by decide), mkd_po (show 6 ≠ 5 by decide)]
  congr 2
  · funext u
    exact (up2_k (show 1 ≠ 5 by decide)).symm
  · funext u
    exact (up2_k (show 2 ≠ 5 by decide)).symm
theorem wm_ph {X : Nat → Nat → Nat → am_V} {A P : Nat → Nat → Int32} {st mk pa ce wd us : Nat → Int32} {va si : Int32} {v : Nat} {x : Int32} (h : v < 28) : am_up (hm X (ym A P st mk pa ce wd us va si)) 24 0 (28 + v) (am_I x) = hm X (ym (up2 A v 5 x) P st mk pa ce wd us va si) := by
  unfold ym
  rw [wy_np, mkd_al h, mkd_ao (show 0 ≠ 5 by decide), mkd_ao (show 3 ≠ 5 by decide), mkd_ao (show 4 ≠ 5 by decide), mkd_ao (show 6 ≠ 5 by decide)]
theorem wm_nq {X : Nat → Nat → Nat → am_V} {A P : Nat → Nat → Int32} {st mk pa ce wd us : Nat → Int32} {va si : Int32} {v : Nat} {x : Int32} (h : v < 28) : am_up (hm X (ym A P st mk pa ce wd us va si)) 25 0 v (am_I x) = hm X (ym A (up2 P v 6 x) st mk pa ce wd us va si) := by
  unfold ym
  rw [wy_nq, mkd_pl h, mkd_po (show 0 ≠ 6 by decide), mkd_po (show 3 ≠ 6 by decide), mkd_po (show 4 ≠ 6 by decide), mkd_po (show 5 ≠ 6 by decide)]
  congr 2
  · funext u
    exact (up2_k (show 1 ≠ 6 by decide)).symm
  · funext u
    exact (up2_k (show 2 ≠ 6 by decide)).symm
theorem wm_qh {X : Nat → Nat → Nat → am_V} {A P : Nat → Nat → Int32} {st mk pa ce wd us : Nat → Int32} {va si : Int32} {v : Nat} {x : Int32} (h : v < 28) : am_up (hm X (ym A P st mk pa ce wd us va si)) 25 0 (28 + v) (am_I x) = hm X (ym (up2 A v 6 x) P st mk pa ce wd us va si) := by
  unfold ym
  rw [wy_nq, mkd_al h, mkd_ao (show 0 ≠ 6 by decide), mkd_ao (show 3 ≠ 6 by decide), mkd_ao (show 4 ≠ 6 by decide), mkd_ao (show 5 ≠ 6 by decide)]
theorem wm_ro {X : Nat → Nat → Nat → am_V} {A P : Nat → Nat → Int32} {st mk pa ce wd us : Nat → Int32} {va si : Int32} {v : Nat} {x : Int32} : am_up (hm X (ym A P st mk pa ce wd us va si)) 26 0 v (am_I x) = hm X (ym A (up2 P v 1 x) st mk pa ce wd us va si) := by
  unfold ym
  rw [wy_ro, mkd_po (show 0 ≠ 1 by decide), mkd_po (show 3 ≠ 1 by decide), mkd_po (show 4 ≠ 1 by decide), mkd_po (show 5 ≠ 1 by decide), mkd_po (show 6 ≠ 1 by decide)]
  congr 2
  · funext u
    first
      | exact (up2_k (show 1 ≠ 1 by decide)).symm
      | (unfold upd up2; simp)
  · funext u
    first
      | exact (up2_k (show 2 ≠ 1 by decide)).symm
      | (unfold upd up2; simp)
theorem wm_co {X : Nat → Nat → Nat → am_V} {A P : Nat → Nat → Int32} {st mk pa ce wd us : Nat → Int32} {va si : Int32} {v : Nat} {x : Int32} : am_up (hm X (ym A P st mk pa ce wd us va si)) 27 0 v (am_I x) = hm X (ym A (up2 P v 2 x) st mk pa ce wd us va si) := by
  unfold ym
  rw [wy_co, mkd_po (show 0 ≠ 2 by decide), mkd_po (show 3 ≠ 2 by decide), mkd_po (show 4 ≠ 2 by decide), mkd_po (show 5 ≠ 2 by decide), mkd_po (show 6 ≠ 2 by decide)]
  congr 2
  · funext u
    first
      | exact (up2_k (show 1 ≠ 2 by decide)).symm
      | (unfold upd up2; simp)
  · funext u
    first
      | exact (up2_k (show 2 ≠ 2 by decide)).symm
      | (unfold upd up2; simp)
theorem wm_mm {X : Nat → Nat → Nat → am_V} {A P : Nat → Nat → Int32} {st mk pa ce wd us : Nat → Int32} {va si : Int32} {k : Nat} {x : Int32} : am_up (hm X (ym A P st mk pa ce wd us va si)) 28 0 k (am_I x) = hm X (ym A P st (upd mk k x) pa ce wd us va si) := wy_mm
theorem wm_sd {X : Nat → Nat → Nat → am_V} {A P : Nat → Nat → Int32} {st mk pa ce wd us : Nat → Int32} {va si : Int32} {k : Nat} {x : Int32} : am_up (hm X (ym A P st mk pa ce wd us va si)) 29 0 k (am_I x) = hm X (ym A P (upd st k x) mk pa ce wd us va si) := wy_sd
theorem wm_pa {X : Nat → Nat → Nat → am_V} {A P : Nat → Nat → Int32} {st mk pa ce wd us : Nat → Int32} {va si : Int32} {k : Nat} {x : Int32} : am_up (hm X (ym A P st mk pa ce wd us va si)) 30 0 k (am_I x) = hm X (ym A P st mk (upd pa k x) ce wd us va si) := wy_pa
theorem wm_ce {X : Nat → Nat → Nat → am_V} {A P : Nat → Nat → Int32} {st mk pa ce wd us : Nat → Int32} {va si : Int32} {k : Nat} {x : Int32} : am_up (hm X (ym A P st mk pa ce wd us va si)) 31 0 k (am_I x) = hm X (ym A P st mk pa (upd ce k x) wd us va si) := wy_ce
theorem wm_wd {X : Nat → Nat → Nat → am_V} {A P : Nat → Nat → Int32} {st mk pa ce wd us : Nat → Int32} {va si : Int32} {k : Nat} {x : Int32} : am_up (hm X (ym A P st mk pa ce wd us va si)) 32 0 k (am_I x) = hm X (ym A P st mk pa ce (upd wd k x) us va si) := wy_wd
theorem wm_ud {X : Nat → Nat → Nat → am_V} {A P : Nat → Nat → Int32} {st mk pa ce wd us : Nat → Int32} {va si : Int32} {k : Nat} {x : Int32} : am_up (hm X (ym A P st mk pa ce wd us va si)) 33 0 k (am_I x) = hm X (ym A P st mk pa ce wd (upd us k x) va si) := wy_ud
theorem wm_vn {X : Nat → Nat → Nat → am_V} {A P : Nat → Nat → Int32} {st mk pa ce wd us : Nat → Int32} {va si : Int32} {x : Int32} : am_up (hm X (ym A P st mk pa ce wd us va si)) 20 0 13 (am_I x) = hm X (ym A P st mk pa ce wd us x si) := wy_vn
theorem wm_sm {X : Nat → Nat → Nat → am_V} {A P : Nat → Nat → Int32} {st mk pa ce wd us : Nat → Int32} {va si : Int32} {x : Int32} : am_up (hm X (ym A P st mk pa ce wd us va si)) 20 0 14 (am_I x) = hm X (ym A P st mk pa ce wd us va x) := wy_sm
set_option maxRecDepth 100000 in
set_option maxHeartbeats 4000000 in
theorem cM_off {g : am_G} {d : Nat} {Q : Option am_V → am_H → Prop} {X : Nat → Nat → Nat → am_V} {A P : Nat → Nat → Int32} {st mk pa ce wd us : Nat → Int32} {va si : Int32} {x y z : Int32} (h1 : (x < y ∨ ¬ x ≤ z) → Q (some (am_I 1)) (hm X (ym A P st mk pa ce wd us va si))) (h0 : ¬ (x < y ∨ ¬ x ≤ z) → Q (some (am_I 0)) (hm X (ym A P st mk pa ce wd us va si))) : am_C g mM_off d 0 0 [am_O 20 0, am_I x, am_I y, am_I z] (hm X (ym A P st mk pa ce wd us va si)) Q := by
  refine am_enter (lv := [some (am_O 20 0), some (am_I x), some (am_I y), some (am_I z)]) rfl rfl (am_cat1 rfl) (Nat.le_of_ble_eq_true rfl) ?_
  refine am_iload_n (i := 1) dM_off_0 rfl rfl ?_
  refine am_iload_n (i := 2) dM_off_1 rfl rfl ?_
  refine am_icmp_lt (tgt := 10) dM_off_2 (by decide) (fun c2 => ?_) (fun c2 => ?_)
  · refine am_iconst (v := 1) dM_off_10 (by decide) ?_
    refine am_goto (tgt := 15) dM_off_11 (by decide) ?_
    refine am_iret (st := []) rfl rfl dM_off_15 ?_
    first | exact h1 (by grind) | exact h0 (by grind)
  · refine am_iload_n (i := 1) dM_off_5 rfl rfl ?_
    refine am_iload_n (i := 3) dM_off_6 rfl rfl ?_
    refine am_icmp_le (tgt := 14) dM_off_7 (by decide) (fun c7 => ?_) (fun c7 => ?_)
    · refine am_iconst (v := 0) dM_off_14 (by decide) ?_
      refine am_iret (st := []) rfl rfl dM_off_15 ?_
      first | exact h1 (by grind) | exact h0 (by grind)
    · refine am_iconst (v := 1) dM_off_10 (by decide) ?_
      refine am_goto (tgt := 15) dM_off_11 (by decide) ?_
      refine am_iret (st := []) rfl rfl dM_off_15 ?_
      first | exact h1 (by grind) | exact h0 (by grind)
set_option maxRecDepth 100000 in
set_option maxHeartbeats 4000000 in
theorem cM_unary {g : am_G} {d : Nat} {Q : Option am_V → am_H → Prop} {X : Nat → Nat → Nat → am_V} {A P : Nat → Nat → Int32} {st mk pa ce wd us : Nat → Int32} {va si : Int32} {x : Int32} (h1 : (x = 6 ∨ x = 7 ∨ ¬ x < 9) → Q (some (am_I 1)) (hm X (ym A P st mk pa ce wd us va si))) (h0 : ¬ (x = 6 ∨ x = 7 ∨ ¬ x < 9) → Q (some (am_I 0)) (hm X (ym A P st mk pa ce wd us va si))) : am_C g mM_unary d 0 0 [am_O 20 0, am_I x] (hm X (ym A P st mk pa ce wd us va si)) Q := by
  refine am_enter (lv := [some (am_O 20 0), some (am_I x)]) rfl rfl (am_cat1 rfl) (Nat.le_of_ble_eq_true rfl) ?_
  refine am_iload_n (i := 1) dM_unary_0 rfl rfl ?_
  refine am_bipush (v := 6) dM_unary_1 (by decide) ?_
  refine am_icmp_eq (tgt := 18) dM_unary_3 (by decide) (fun c3 => ?_) (fun c3 => ?_)
  · refine am_iconst (v := 1) dM_unary_18 (by decide) ?_
    refine am_goto (tgt := 23) dM_unary_19 (by decide) ?_
    refine am_iret (st := []) rfl rfl dM_unary_23 ?_
    first | exact h1 (by grind) | exact h0 (by grind)
  · refine am_iload_n (i := 1) dM_unary_6 rfl rfl ?_
    refine am_bipush (v := 7) dM_unary_7 (by decide) ?_
    refine am_icmp_eq (tgt := 18) dM_unary_9 (by decide) (fun c9 => ?_) (fun c9 => ?_)
    · refine am_iconst (v := 1) dM_unary_18 (by decide) ?_
      refine am_goto (tgt := 23) dM_unary_19 (by decide) ?_
      refine am_iret (st := []) rfl rfl dM_unary_23 ?_
      first | exact h1 (by grind) | exact h0 (by grind)
    · refine am_iload_n (i := 1) dM_unary_12 rfl rfl ?_
      refine am_bipush (v := 9) dM_unary_13 (by decide) ?_
      refine am_icmp_lt (tgt := 22) dM_unary_15 (by decide) (fun c15 => ?_) (fun c15 => ?_)
      · refine am_iconst (v := 0) dM_unary_22 (by decide) ?_
        refine am_iret (st := []) rfl rfl dM_unary_23 ?_
        first | exact h1 (by grind) | exact h0 (by grind)
      · refine am_iconst (v := 1) dM_unary_18 (by decide) ?_
        refine am_goto (tgt := 23) dM_unary_19 (by decide) ?_
        refine am_iret (st := []) rfl rfl dM_unary_23 ?_
        first | exact h1 (by grind) | exact h0 (by grind)
set_option maxRecDepth 100000 in
set_option maxHeartbeats 4000000 in
theorem cM_no {g : am_G} {d : Nat} {Q : Option am_V → am_H → Prop} {X : Nat → Nat → Nat → am_V} {A P : Nat → Nat → Int32} {st mk pa ce wd us : Nat → Int32} {si : Int32} {n : Nat} {x : Int32} (hn : n ≤ 28) (h1 : (x < 0 ∨ nI n ≤ x) → Q (some (am_I 1)) (hm X (ym A P st mk pa ce wd us (nI n) si))) (h0 : ∀ j, j < n → x = nI j → Q (some (am_I 0)) (hm X (ym A P st mk pa ce wd us (nI n) si))) : am_C g mM_no d 0 0 [am_O 20 0, am_I x] (hm X (ym A P st mk pa ce wd us (nI n) si)) Q := by
  refine am_enter (lv := [some (am_O 20 0), some (am_I x)]) rfl rfl (am_cat1 rfl) (Nat.le_of_ble_eq_true rfl) ?_
  refine am_iload_n (i := 1) dM_no_0 rfl rfl ?_
  refine am_if_lt (tgt := 12) dM_no_1 (by decide) (fun c1 => ?_) (fun c1 => ?_)
  · refine am_iconst (v := 1) dM_no_12 (by decide) ?_
    refine am_goto (tgt := 17) dM_no_13 (by decide) ?_
    refine am_iret (st := []) rfl rfl dM_no_17 ?_
    exact h1 (Or.inl c1)
  · refine am_iload_n (i := 1) dM_no_4 rfl rfl ?_
    refine am_aload_n (i := 0) dM_no_5 rfl rfl ?_
    refine am_getf dM_no_6 flM_50 (by first | rfl | exact sk8 (by omega) | exact sk9 (by omega) | exact sk10 (by omega) | exact sk11 (by omega)) rfl ?_
    refine am_icmp_lt (tgt := 16) dM_no_9 (by decide) (fun c9 => ?_) (fun c9 => ?_)
    · refine am_iconst (v := 0) dM_no_16 (by decide) ?_
      refine am_iret (st := []) rfl rfl dM_no_17 ?_
      rcases pk_ix x (n := n) (by omega) with q | q | ⟨j, hj, ej⟩
      · exact absurd q c1
      · exact absurd c9 (Int32.not_lt.mpr q)
      · exact h0 j hj ej
    · refine am_iconst (v := 1) dM_no_12 (by decide) ?_
      refine am_goto (tgt := 17) dM_no_13 (by decide) ?_
      refine am_iret (st := []) rfl rfl dM_no_17 ?_
      exact h1 (Or.inr (Int32.not_lt.mp c9))
set_option maxRecDepth 100000 in
set_option maxHeartbeats 4000000 in
theorem cM_splat {g : am_G} {d : Nat} {Q : Option am_V → am_H → Prop} {X : Nat → Nat → Nat → am_V} {A P : Nat → Nat → Int32} {st mk pa ce wd us : Nat → Int32} {va si : Int32} {a : Nat} {x z : Int32} (ha : a < 28) (hx : x = nI a) (h1 : (q_spl P x z) → Q (some (am_I 1)) (hm X (ym A P st mk pa ce wd us va si))) (h0 : ¬ (q_spl P x z) → Q (some (am_I 0)) (hm X (ym A P st mk pa ce wd us va si))) : am_C g mM_splat d 0 0 [am_O 20 0, am_I x, am_I z] (hm X (ym A P st mk pa ce wd us va si)) Q := by
  refine am_enter (lv := [some (am_O 20 0), some (am_I x), some (am_I z)]) rfl rfl (am_cat1 rfl) (Nat.le_of_ble_eq_true rfl) ?_
  have exa : ix x = a := by rw [hx, ix_nI (by omega)]
  refine am_aload_n (i := 0) dM_splat_0 rfl rfl ?_
  refine am_getf dM_splat_1 flM_7 (by first | rfl | exact sk8 (by omega) | exact sk9 (by omega) | exact sk10 (by omega) | exact sk11 (by omega)) rfl ?_
  refine am_iload_n (i := 1) dM_splat_4 rfl rfl ?_
  refine am_iald dM_splat_5 (by first | rfl | exact sk8 (by omega) | exact sk9 (by omega) | exact sk10 (by omega) | exact sk11 (by omega)) hx (by first | omega | assumption | decide) (by decide) (by decide) (by first | exact congrArg am_I (mkd_lo (by omega)) | exact congrArg am_I (mkd_hi (by omega)) | rfl) ?_
  refine am_iconst (v := 1) dM_splat_6 (by decide) ?_
  refine am_icmp_ne (tgt := 24) dM_splat_7 (by decide) (fun c7 => ?_) (fun c7 => ?_)
  · refine am_iconst (v := 0) dM_splat_24 (by decide) ?_
    refine am_iret (st := []) rfl rfl dM_splat_25 ?_
    unfold q_spl at h1 h0
    rw [exa] at h1 h0
    first | exact h1 (by grind) | exact h0 (by grind)
  · refine am_aload_n (i := 0) dM_splat_10 rfl rfl ?_
    refine am_getf dM_splat_11 flM_19 (by first | rfl | exact sk8 (by omega) | exact sk9 (by omega) | exact sk10 (by omega) | exact sk11 (by omega)) rfl ?_
    refine am_iload_n (i := 1) dM_splat_14 rfl rfl ?_
    refine am_iald dM_splat_15 (by first | rfl | exact sk8 (by omega) | exact sk9 (by omega) | exact sk10 (by omega) | exact sk11 (by omega)) hx (by first | omega | assumption | decide) (by decide) (by decide) (by first | exact congrArg am_I (mkd_lo (by omega)) | exact congrArg am_I (mkd_hi (by omega)) | rfl) ?_
    refine am_iload_n (i := 2) dM_splat_16 rfl rfl ?_
    refine am_icmp_ne (tgt := 24) dM_splat_17 (by decide) (fun c17 => ?_) (fun c17 => ?_)
    · refine am_iconst (v := 0) dM_splat_24 (by decide) ?_
      refine am_iret (st := []) rfl rfl dM_splat_25 ?_
      unfold q_spl at h1 h0
      rw [exa] at h1 h0
      first | exact h1 (by grind) | exact h0 (by grind)
    · refine am_iconst (v := 1) dM_splat_20 (by decide) ?_
      refine am_goto (tgt := 25) dM_splat_21 (by decide) ?_
      refine am_iret (st := []) rfl rfl dM_splat_25 ?_
      unfold q_spl at h1 h0
      rw [exa] at h1 h0
      first | exact h1 (by grind) | exact h0 (by grind)
set_option maxRecDepth 100000 in
set_option maxHeartbeats 4000000 in
theorem cM_sameShape {g : am_G} {d : Nat} {Q : Option am_V → am_H → Prop} {X : Nat → Nat → Nat → am_V} {A P : Nat → Nat → Int32} {st mk pa ce wd us : Nat → Int32} {va si : Int32} {v u : Nat} {x y : Int32} (hv : v < 28) (hu : u < 28) (hx : x = nI v) (hy : y = nI u) (h1 : (q_shp P v u) → Q (some (am_I 1)) (hm X (ym A P st mk pa ce wd us va si))) (h0 : ¬ (q_shp P v u) → Q (some (am_I 0)) (hm X (ym A P st mk pa ce wd us va si))) : am_C g mM_sameShape d 0 0 [am_O 20 0, am_I x, am_I y] (hm X (ym A P st mk pa ce wd us va si)) Q := by
  refine am_enter (lv := [some (am_O 20 0), some (am_I x), some (am_I y)]) rfl rfl (am_cat1 rfl) (Nat.le_of_ble_eq_true rfl) ?_
  refine am_aload_n (i := 0) dM_sameShape_0 rfl rfl ?_
  refine am_getf dM_sameShape_1 flM_25 (by first | rfl | exact sk8 (by omega) | exact sk9 (by omega) | exact sk10 (by omega) | exact sk11 (by omega)) rfl ?_
  refine am_iload_n (i := 1) dM_sameShape_4 rfl rfl ?_
  refine am_iald dM_sameShape_5 (by first | rfl | exact sk8 (by omega) | exact sk9 (by omega) | exact sk10 (by omega) | exact sk11 (by omega)) hx (by first | omega | assumption | decide) (by decide) (by decide) (by first | exact congrArg am_I (mkd_lo (by omega)) | exact congrArg am_I (mkd_hi (by omega)) | rfl) ?_
  refine am_aload_n (i := 0) dM_sameShape_6 rfl rfl ?_
  refine am_getf dM_sameShape_7 flM_25 (by first | rfl | exact sk8 (by omega) | exact sk9 (by omega) | exact sk10 (by omega) | exact sk11 (by omega)) rfl ?_
  refine am_iload_n (i := 2) dM_sameShape_10 rfl rfl ?_
  refine am_iald dM_sameShape_11 (by first | rfl | exact sk8 (by omega) | exact sk9 (by omega) | exact sk10 (by omega) | exact sk11 (by omega)) hy (by first | omega | assumption | decide) (by decide) (by decide) (by first | exact congrArg am_I (mkd_lo (by omega)) | exact congrArg am_I (mkd_hi (by omega)) | rfl) ?_
  refine am_icmp_ne (tgt := 34) dM_sameShape_12 (by decide) (fun c12 => ?_) (fun c12 => ?_)
  · refine am_iconst (v := 0) dM_sameShape_34 (by decide) ?_
    refine am_iret (st := []) rfl rfl dM_sameShape_35 ?_
    first | exact h1 (by grind) | exact h0 (by grind)
  · refine am_aload_n (i := 0) dM_sameShape_15 rfl rfl ?_
    refine am_getf dM_sameShape_16 flM_28 (by first | rfl | exact sk8 (by omega) | exact sk9 (by omega) | exact sk10 (by omega) | exact sk11 (by omega)) rfl ?_
    refine am_iload_n (i := 1) dM_sameShape_19 rfl rfl ?_
    refine am_iald dM_sameShape_20 (by first | rfl | exact sk8 (by omega) | exact sk9 (by omega) | exact sk10 (by omega) | exact sk11 (by omega)) hx (by first | omega | assumption | decide) (by decide) (by decide) (by first | exact congrArg am_I (mkd_lo (by omega)) | exact congrArg am_I (mkd_hi (by omega)) | rfl) ?_
    refine am_aload_n (i := 0) dM_sameShape_21 rfl rfl ?_
    refine am_getf dM_sameShape_22 flM_28 (by first | rfl | exact sk8 (by omega) | exact sk9 (by omega) | exact sk10 (by omega) | exact sk11 (by omega)) rfl ?_
    refine am_iload_n (i := 2) dM_sameShape_25 rfl rfl ?_
    refine am_iald dM_sameShape_26 (by first | rfl | exact sk8 (by omega) | exact sk9 (by omega) | exact sk10 (by omega) | exact sk11 (by omega)) hy (by first | omega | assumption | decide) (by decide) (by decide) (by first | exact congrArg am_I (mkd_lo (by omega)) | exact congrArg am_I (mkd_hi (by omega)) | rfl) ?_
    refine am_icmp_ne (tgt := 34) dM_sameShape_27 (by decide) (fun c27 => ?_) (fun c27 => ?_)
    · refine am_iconst (v := 0) dM_sameShape_34 (by decide) ?_
      refine am_iret (st := []) rfl rfl dM_sameShape_35 ?_
      first | exact h1 (by grind) | exact h0 (by grind)
    · refine am_iconst (v := 1) dM_sameShape_30 (by decide) ?_
      refine am_goto (tgt := 35) dM_sameShape_31 (by decide) ?_
      refine am_iret (st := []) rfl rfl dM_sameShape_35 ?_
      first | exact h1 (by grind) | exact h0 (by grind)
set_option maxRecDepth 100000 in
set_option maxHeartbeats 4000000 in
theorem cM_become {g : am_G} {d : Nat} {Q : Option am_V → am_H → Prop} {X : Nat → Nat → Nat → am_V} {A P : Nat → Nat → Int32} {st mk pa ce wd us : Nat → Int32} {va si : Int32} {v : Nat} {x : Int32} (hv : v < 28) (k : Q none (hm X (ym A (q_spt P v x) st mk pa ce wd us va si))) : am_C g mM_become d 0 0 [am_O 20 0, am_I (nI v), am_I x] (hm X (ym A P st mk pa ce wd us va si)) Q := by
  refine am_enter (lv := [some (am_O 20 0), some (am_I (nI v)), some (am_I x)]) rfl rfl (am_cat1 rfl) (Nat.le_of_ble_eq_true rfl) ?_
  refine am_aload_n (i := 0) dM_become_0 rfl rfl ?_
  refine am_getf dM_become_1 flM_7 (by first | rfl | exact sk8 (by omega) | exact sk9 (by omega) | exact sk10 (by omega) | exact sk11 (by omega)) rfl ?_
  refine am_iload_n (i := 1) dM_become_4 rfl rfl ?_
  refine am_iconst (v := 1) dM_become_5 (by decide) ?_
  refine am_iast' dM_become_6 (by first | rfl | exact sk8 (by omega) | exact sk9 (by omega) | exact sk10 (by omega) | exact sk11 (by omega)) rfl (by first | omega | assumption | decide) (by decide) (by decide) (by first | exact wm_kd (by omega) | exact wm_kh (by omega) | exact wm_fi (by omega) | exact wm_fh (by omega) | exact wm_se (by omega) | exact wm_sh (by omega) | exact wm_np (by omega) | exact wm_ph (by omega) | exact wm_nq (by omega) | exact wm_qh (by omega) | exact wm_ro | exact wm_co | exact wm_mm | exact wm_sd | exact wm_pa | exact wm_ce | exact wm_wd | exact wm_ud | exact wm_vn | exact wm_sm) ?_
  refine am_aload_n (i := 0) dM_become_7 rfl rfl ?_
  refine am_getf dM_become_8 flM_13 (by first | rfl | exact sk8 (by omega) | exact sk9 (by omega) | exact sk10 (by omega) | exact sk11 (by omega)) rfl ?_
  refine am_iload_n (i := 1) dM_become_11 rfl rfl ?_
  refine am_iconst (v := (-1)) dM_become_12 (by decide) ?_
  refine am_iast' dM_become_13 (by first | rfl | exact sk8 (by omega) | exact sk9 (by omega) | exact sk10 (by omega) | exact sk11 (by omega)) rfl (by first | omega | assumption | decide) (by decide) (by decide) (by first | exact wm_kd (by omega) | exact wm_kh (by omega) | exact wm_fi (by omega) | exact wm_fh (by omega) | exact wm_se (by omega) | exact wm_sh (by omega) | exact wm_np (by omega) | exact wm_ph (by omega) | exact wm_nq (by omega) | exact wm_qh (by omega) | exact wm_ro | exact wm_co | exact wm_mm | exact wm_sd | exact wm_pa | exact wm_ce | exact wm_wd | exact wm_ud | exact wm_vn | exact wm_sm) ?_
  refine am_aload_n (i := 0) dM_become_14 rfl rfl ?_
  refine am_getf dM_become_15 flM_16 (by first | rfl | exact sk8 (by omega) | exact sk9 (by omega) | exact sk10 (by omega) | exact sk11 (by omega)) rfl ?_
  refine am_iload_n (i := 1) dM_become_18 rfl rfl ?_
  refine am_iconst (v := (-1)) dM_become_19 (by decide) ?_
  refine am_iast' dM_become_20 (by first | rfl | exact sk8 (by omega) | exact sk9 (by omega) | exact sk10 (by omega) | exact sk11 (by omega)) rfl (by first | omega | assumption | decide) (by decide) (by decide) (by first | exact wm_kd (by omega) | exact wm_kh (by omega) | exact wm_fi (by omega) | exact wm_fh (by omega) | exact wm_se (by omega) | exact wm_sh (by omega) | exact wm_np (by omega) | exact wm_ph (by omega) | exact wm_nq (by omega) | exact wm_qh (by omega) | exact wm_ro | exact wm_co | exact wm_mm | exact wm_sd | exact wm_pa | exact wm_ce | exact wm_wd | exact wm_ud | exact wm_vn | exact wm_sm) ?_
  refine am_aload_n (i := 0) dM_become_21 rfl rfl ?_
  refine am_getf dM_become_22 flM_19 (by first | rfl | exact sk8 (by omega) | exact sk9 (by omega) | exact sk10 (by omega) | exact sk11 (by omega)) rfl ?_
  refine am_iload_n (i := 1) dM_become_25 rfl rfl ?_
  refine am_iload_n (i := 2) dM_become_26 rfl rfl ?_
  refine am_iast' dM_become_27 (by first | rfl | exact sk8 (by omega) | exact sk9 (by omega) | exact sk10 (by omega) | exact sk11 (by omega)) rfl (by first | omega | assumption | decide) (by decide) (by decide) (by first | exact wm_kd (by omega) | exact wm_kh (by omega) | exact wm_fi (by omega) | exact wm_fh (by omega) | exact wm_se (by omega) | exact wm_sh (by omega) | exact wm_np (by omega) | exact wm_ph (by omega) | exact wm_nq (by omega) | exact wm_qh (by omega) | exact wm_ro | exact wm_co | exact wm_mm | exact wm_sd | exact wm_pa | exact wm_ce | exact wm_wd | exact wm_ud | exact wm_vn | exact wm_sm) ?_
  refine am_aload_n (i := 0) dM_become_28 rfl rfl ?_
  refine am_getf dM_become_29 flM_22 (by first | rfl | exact sk8 (by omega) | exact sk9 (by omega) | exact sk10 (by omega) | exact sk11 (by omega)) rfl ?_
  refine am_iload_n (i := 1) dM_become_32 rfl rfl ?_
  refine am_iconst (v := 0) dM_become_33 (by decide) ?_
  refine am_iast' dM_become_34 (by first | rfl | exact sk8 (by omega) | exact sk9 (by omega) | exact sk10 (by omega) | exact sk11 (by omega)) rfl (by first | omega | assumption | decide) (by decide) (by decide) (by first | exact wm_kd (by omega) | exact wm_kh (by omega) | exact wm_fi (by omega) | exact wm_fh (by omega) | exact wm_se (by omega) | exact wm_sh (by omega) | exact wm_np (by omega) | exact wm_ph (by omega) | exact wm_nq (by omega) | exact wm_qh (by omega) | exact wm_ro | exact wm_co | exact wm_mm | exact wm_sd | exact wm_pa | exact wm_ce | exact wm_wd | exact wm_ud | exact wm_vn | exact wm_sm) ?_
  refine am_vret (st := []) rfl dM_become_35 ?_
  exact k
theorem q_arg_neg {x : Int32} {v : Nat} (h : q_arg x v) (hv : v ≤ 28) : (x < 0 ↔ x = -1) ∧ (¬ 0 ≤ x ↔ x = -1) := by
  rcases h with rfl | ⟨a, ha, rfl⟩
  · exact ⟨⟨fun _ => rfl, fun _ => by decide⟩, ⟨fun _ => rfl, fun _ => by decide⟩⟩
  · have h1 : ¬ nI a < 0 := nI_pos (by omega)
    have h2 := nI_m1 (show a < 28 by omega)
    exact ⟨⟨fun q => absurd q h1, fun q => absurd q h2⟩, ⟨fun q => absurd (Int32.not_lt.mp h1) q, fun q => absurd q h2⟩⟩
set_option maxRecDepth 100000 in
set_option maxHeartbeats 4000000 in
theorem cM_folded {g : am_G} {d : Nat} {Q : Option am_V → am_H → Prop} {X : Nat → Nat → Nat → am_V} {A P : Nat → Nat → Int32} {st mk pa ce wd us : Nat → Int32} {va si : Int32} {v : Nat} (hv : v < 28) (h3 : q_arg (P v 3) v) (h4 : q_arg (P v 4) v) (hq : ¬ P v 3 = -1) (k : ∀ r, r = q_foldV P v → Q (some (am_I r)) (hm X (ym A P st mk pa ce wd us va si))) : am_C g mM_folded d 0 0 [am_O 20 0, am_I (nI v)] (hm X (ym A P st mk pa ce wd us va si)) Q := by
  refine am_enter (lv := [some (am_O 20 0), some (am_I (nI v)), none, none, none]) rfl rfl (am_cat1 rfl) (Nat.le_of_ble_eq_true rfl) ?_
  obtain ⟨g3, e3⟩ := h3.ix hq (by omega)
  refine am_aload_n (i := 0) dM_folded_0 rfl rfl ?_
  refine am_getf dM_folded_1 flM_19 (by first | rfl | exact sk8 (by omega) | exact sk9 (by omega) | exact sk10 (by omega) | exact sk11 (by omega)) rfl ?_
  refine am_aload_n (i := 0) dM_folded_4 rfl rfl ?_
  refine am_getf dM_folded_5 flM_13 (by first | rfl | exact sk8 (by omega) | exact sk9 (by omega) | exact sk10 (by omega) | exact sk11 (by omega)) rfl ?_
  refine am_iload_n (i := 1) dM_folded_8 rfl rfl ?_
  refine am_iald dM_folded_9 (by first | rfl | exact sk8 (by omega) | exact sk9 (by omega) | exact sk10 (by omega) | exact sk11 (by omega)) rfl (by first | omega | assumption | decide) (by decide) (by decide) (by first | exact congrArg am_I (mkd_lo (by omega)) | exact congrArg am_I (mkd_hi (by omega)) | rfl) ?_
  refine am_iald dM_folded_10 (by first | rfl | exact sk8 (by omega) | exact sk9 (by omega) | exact sk10 (by omega) | exact sk11 (by omega)) e3 (by first | omega | assumption | decide) (by decide) (by decide) (by first | exact congrArg am_I (mkd_lo (by omega)) | exact congrArg am_I (mkd_hi (by omega)) | rfl) ?_
  refine am_istore_n (i := 2) dM_folded_11 rfl (by decide) ?_
  refine am_aload_n (i := 0) dM_folded_12 rfl rfl ?_
  refine am_getf dM_folded_13 flM_16 (by first | rfl | exact sk8 (by omega) | exact sk9 (by omega) | exact sk10 (by omega) | exact sk11 (by omega)) rfl ?_
  refine am_iload_n (i := 1) dM_folded_16 rfl rfl ?_
  refine am_iald dM_folded_17 (by first | rfl | exact sk8 (by omega) | exact sk9 (by omega) | exact sk10 (by omega) | exact sk11 (by omega)) rfl (by first | omega | assumption | decide) (by decide) (by decide) (by first | exact congrArg am_I (mkd_lo (by omega)) | exact congrArg am_I (mkd_hi (by omega)) | rfl) ?_
  refine am_if_ge (tgt := 25) dM_folded_18 (by decide) (fun c18 => ?_) (fun c18 => ?_)
  · have n4 : ¬ P v 4 = -1 := fun q => absurd c18 ((q_arg_neg h4 (by omega)).2.mpr q)
    obtain ⟨g4, e4⟩ := h4.ix n4 (by omega)
    refine am_aload_n (i := 0) dM_folded_25 rfl rfl ?_
    refine am_getf dM_folded_26 flM_19 (by first | rfl | exact sk8 (by omega) | exact sk9 (by omega) | exact sk10 (by omega) | exact sk11 (by omega)) rfl ?_
    refine am_aload_n (i := 0) dM_folded_29 rfl rfl ?_
    refine am_getf dM_folded_30 flM_16 (by first | rfl | exact sk8 (by omega) | exact sk9 (by omega) | exact sk10 (by omega) | exact sk11 (by omega)) rfl ?_
    refine am_iload_n (i := 1) dM_folded_33 rfl rfl ?_
    refine am_iald dM_folded_34 (by first | rfl | exact sk8 (by omega) | exact sk9 (by omega) | exact sk10 (by omega) | exact sk11 (by omega)) rfl (by first | omega | assumption | decide) (by decide) (by decide) (by first | exact congrArg am_I (mkd_lo (by omega)) | exact congrArg am_I (mkd_hi (by omega)) | rfl) ?_
    refine am_iald dM_folded_35 (by first | rfl | exact sk8 (by omega) | exact sk9 (by omega) | exact sk10 (by omega) | exact sk11 (by omega)) e4 (by first | omega | assumption | decide) (by decide) (by decide) (by first | exact congrArg am_I (mkd_lo (by omega)) | exact congrArg am_I (mkd_hi (by omega)) | rfl) ?_
    refine am_istore_n (i := 3) dM_folded_36 rfl (by decide) ?_
    refine am_aload_n (i := 0) dM_folded_37 rfl rfl ?_
    refine am_getf dM_folded_38 flM_7 (by first | rfl | exact sk8 (by omega) | exact sk9 (by omega) | exact sk10 (by omega) | exact sk11 (by omega)) rfl ?_
    refine am_iload_n (i := 1) dM_folded_41 rfl rfl ?_
    refine am_iald dM_folded_42 (by first | rfl | exact sk8 (by omega) | exact sk9 (by omega) | exact sk10 (by omega) | exact sk11 (by omega)) rfl (by first | omega | assumption | decide) (by decide) (by decide) (by first | exact congrArg am_I (mkd_lo (by omega)) | exact congrArg am_I (mkd_hi (by omega)) | rfl) ?_
    refine am_istore (i := 4) dM_folded_43 (by decide) ?_
    refine am_iload (i := 4) dM_folded_45 rfl ?_
    refine am_iconst (v := 3) dM_folded_47 (by decide) ?_
    refine am_icmp_ne (tgt := 55) dM_folded_48 (by decide) (fun c48 => ?_) (fun c48 => ?_)
    · refine am_iload (i := 4) dM_folded_55 rfl ?_
      refine am_iconst (v := 4) dM_folded_57 (by decide) ?_
      refine am_icmp_ne (tgt := 65) dM_folded_58 (by decide) (fun c58 => ?_) (fun c58 => ?_)
      · refine am_iload (i := 4) dM_folded_65 rfl ?_
        refine am_iconst (v := 5) dM_folded_67 (by decide) ?_
        refine am_icmp_ne (tgt := 82) dM_folded_68 (by decide) (fun c68 => ?_) (fun c68 => ?_)
        · refine am_iload (i := 4) dM_folded_82 rfl ?_
          refine am_bipush (v := 6) dM_folded_84 (by decide) ?_
          refine am_icmp_ne (tgt := 92) dM_folded_86 (by decide) (fun c86 => ?_) (fun c86 => ?_)
          · refine am_iload (i := 4) dM_folded_92 rfl ?_
            refine am_bipush (v := 8) dM_folded_94 (by decide) ?_
            refine am_icmp_ne (tgt := 115) dM_folded_96 (by decide) (fun c96 => ?_) (fun c96 => ?_)
            · refine am_iload (i := 4) dM_folded_115 rfl ?_
              refine am_bipush (v := 9) dM_folded_117 (by decide) ?_
              refine am_icmp_ne (tgt := 159) dM_folded_119 (by decide) (fun c119 => ?_) (fun c119 => ?_)
              · refine am_iload_n (i := 2) dM_folded_159 rfl rfl ?_
                refine am_iret (st := []) rfl rfl dM_folded_160 ?_
                exact k _ (by unfold q_foldV q_fold; grind)
              · refine am_iload_n (i := 2) dM_folded_122 rfl rfl ?_
                refine am_aload_n (i := 0) dM_folded_123 rfl rfl ?_
                refine am_getf dM_folded_124 flM_19 (by first | rfl | exact sk8 (by omega) | exact sk9 (by omega) | exact sk10 (by omega) | exact sk11 (by omega)) rfl ?_
                refine am_iload_n (i := 1) dM_folded_127 rfl rfl ?_
                refine am_iald dM_folded_128 (by first | rfl | exact sk8 (by omega) | exact sk9 (by omega) | exact sk10 (by omega) | exact sk11 (by omega)) rfl (by first | omega | assumption | decide) (by decide) (by decide) (by first | exact congrArg am_I (mkd_lo (by omega)) | exact congrArg am_I (mkd_hi (by omega)) | rfl) ?_
                refine am_if_ne (tgt := 146) dM_folded_129 (by decide) (fun c129 => ?_) (fun c129 => ?_)
                · refine am_aload_n (i := 0) dM_folded_146 rfl rfl ?_
                  refine am_getf dM_folded_147 flM_28 (by first | rfl | exact sk8 (by omega) | exact sk9 (by omega) | exact sk10 (by omega) | exact sk11 (by omega)) rfl ?_
                  refine am_aload_n (i := 0) dM_folded_150 rfl rfl ?_
                  refine am_getf dM_folded_151 flM_13 (by first | rfl | exact sk8 (by omega) | exact sk9 (by omega) | exact sk10 (by omega) | exact sk11 (by omega)) rfl ?_
                  refine am_iload_n (i := 1) dM_folded_154 rfl rfl ?_
                  refine am_iald dM_folded_155 (by first | rfl | exact sk8 (by omega) | exact sk9 (by omega) | exact sk10 (by omega) | exact sk11 (by omega)) rfl (by first | omega | assumption | decide) (by decide) (by decide) (by first | exact congrArg am_I (mkd_lo (by omega)) | exact congrArg am_I (mkd_hi (by omega)) | rfl) ?_
                  refine am_iald dM_folded_156 (by first | rfl | exact sk8 (by omega) | exact sk9 (by omega) | exact sk10 (by omega) | exact sk11 (by omega)) e3 (by first | omega | assumption | decide) (by decide) (by decide) (by first | exact congrArg am_I (mkd_lo (by omega)) | exact congrArg am_I (mkd_hi (by omega)) | rfl) ?_
                  refine am_imul dM_folded_157 ?_
                  refine am_iret (st := []) rfl rfl dM_folded_158 ?_
                  exact k _ (by unfold q_foldV q_fold; grind)
                · refine am_aload_n (i := 0) dM_folded_132 rfl rfl ?_
                  refine am_getf dM_folded_133 flM_25 (by first | rfl | exact sk8 (by omega) | exact sk9 (by omega) | exact sk10 (by omega) | exact sk11 (by omega)) rfl ?_
                  refine am_aload_n (i := 0) dM_folded_136 rfl rfl ?_
                  refine am_getf dM_folded_137 flM_13 (by first | rfl | exact sk8 (by omega) | exact sk9 (by omega) | exact sk10 (by omega) | exact sk11 (by omega)) rfl ?_
                  refine am_iload_n (i := 1) dM_folded_140 rfl rfl ?_
                  refine am_iald dM_folded_141 (by first | rfl | exact sk8 (by omega) | exact sk9 (by omega) | exact sk10 (by omega) | exact sk11 (by omega)) rfl (by first | omega | assumption | decide) (by decide) (by decide) (by first | exact congrArg am_I (mkd_lo (by omega)) | exact congrArg am_I (mkd_hi (by omega)) | rfl) ?_
                  refine am_iald dM_folded_142 (by first | rfl | exact sk8 (by omega) | exact sk9 (by omega) | exact sk10 (by omega) | exact sk11 (by omega)) e3 (by first | omega | assumption | decide) (by decide) (by decide) (by first | exact congrArg am_I (mkd_lo (by omega)) | exact congrArg am_I (mkd_hi (by omega)) | rfl) ?_
                  refine am_goto (tgt := 157) dM_folded_143 (by decide) ?_
                  refine am_imul dM_folded_157 ?_
                  refine am_iret (st := []) rfl rfl dM_folded_158 ?_
                  exact k _ (by unfold q_foldV q_fold; grind)
            · refine am_iload_n (i := 2) dM_folded_99 rfl rfl ?_
              refine am_iload_n (i := 3) dM_folded_100 rfl rfl ?_
              refine am_imul dM_folded_101 ?_
              refine am_aload_n (i := 0) dM_folded_102 rfl rfl ?_
              refine am_getf dM_folded_103 flM_28 (by first | rfl | exact sk8 (by omega) | exact sk9 (by omega) | exact sk10 (by omega) | exact sk11 (by omega)) rfl ?_
              refine am_aload_n (i := 0) dM_folded_106 rfl rfl ?_
              refine am_getf dM_folded_107 flM_13 (by first | rfl | exact sk8 (by omega) | exact sk9 (by omega) | exact sk10 (by omega) | exact sk11 (by omega)) rfl ?_
              refine am_iload_n (i := 1) dM_folded_110 rfl rfl ?_
              refine am_iald dM_folded_111 (by first | rfl | exact sk8 (by omega) | exact sk9 (by omega) | exact sk10 (by omega) | exact sk11 (by omega)) rfl (by first | omega | assumption | decide) (by decide) (by decide) (by first | exact congrArg am_I (mkd_lo (by omega)) | exact congrArg am_I (mkd_hi (by omega)) | rfl) ?_
              refine am_iald dM_folded_112 (by first | rfl | exact sk8 (by omega) | exact sk9 (by omega) | exact sk10 (by omega) | exact sk11 (by omega)) e3 (by first | omega | assumption | decide) (by decide) (by decide) (by first | exact congrArg am_I (mkd_lo (by omega)) | exact congrArg am_I (mkd_hi (by omega)) | rfl) ?_
              refine am_imul dM_folded_113 ?_
              refine am_iret (st := []) rfl rfl dM_folded_114 ?_
              exact k _ (by unfold q_foldV q_fold; grind)
          · refine am_iload_n (i := 2) dM_folded_89 rfl rfl ?_
            refine am_ineg dM_folded_90 ?_
            refine am_iret (st := []) rfl rfl dM_folded_91 ?_
            exact k _ (by unfold q_foldV q_fold; grind)
        · refine am_iload_n (i := 2) dM_folded_71 rfl rfl ?_
          refine am_iload_n (i := 3) dM_folded_72 rfl rfl ?_
          refine am_icmp_le (tgt := 80) dM_folded_73 (by decide) (fun c73 => ?_) (fun c73 => ?_)
          · refine am_iload_n (i := 3) dM_folded_80 rfl rfl ?_
            refine am_iret (st := []) rfl rfl dM_folded_81 ?_
            exact k _ (by unfold q_foldV q_fold; grind)
          · refine am_iload_n (i := 2) dM_folded_76 rfl rfl ?_
            refine am_goto (tgt := 81) dM_folded_77 (by decide) ?_
            refine am_iret (st := []) rfl rfl dM_folded_81 ?_
            exact k _ (by unfold q_foldV q_fold; grind)
      · refine am_iload_n (i := 2) dM_folded_61 rfl rfl ?_
        refine am_iload_n (i := 3) dM_folded_62 rfl rfl ?_
        refine am_imul dM_folded_63 ?_
        refine am_iret (st := []) rfl rfl dM_folded_64 ?_
        exact k _ (by unfold q_foldV q_fold; grind)
    · refine am_iload_n (i := 2) dM_folded_51 rfl rfl ?_
      refine am_iload_n (i := 3) dM_folded_52 rfl rfl ?_
      refine am_iadd dM_folded_53 ?_
      refine am_iret (st := []) rfl rfl dM_folded_54 ?_
      exact k _ (by unfold q_foldV q_fold; grind)
  · have n4 : P v 4 = -1 := (q_arg_neg h4 (by omega)).2.mp c18
    refine am_iconst (v := 0) dM_folded_21 (by decide) ?_
    refine am_goto (tgt := 36) dM_folded_22 (by decide) ?_
    refine am_istore_n (i := 3) dM_folded_36 rfl (by decide) ?_
    refine am_aload_n (i := 0) dM_folded_37 rfl rfl ?_
    refine am_getf dM_folded_38 flM_7 (by first | rfl | exact sk8 (by omega) | exact sk9 (by omega) | exact sk10 (by omega) | exact sk11 (by omega)) rfl ?_
    refine am_iload_n (i := 1) dM_folded_41 rfl rfl ?_
    refine am_iald dM_folded_42 (by first | rfl | exact sk8 (by omega) | exact sk9 (by omega) | exact sk10 (by omega) | exact sk11 (by omega)) rfl (by first | omega | assumption | decide) (by decide) (by decide) (by first | exact congrArg am_I (mkd_lo (by omega)) | exact congrArg am_I (mkd_hi (by omega)) | rfl) ?_
    refine am_istore (i := 4) dM_folded_43 (by decide) ?_
    refine am_iload (i := 4) dM_folded_45 rfl ?_
    refine am_iconst (v := 3) dM_folded_47 (by decide) ?_
    refine am_icmp_ne (tgt := 55) dM_folded_48 (by decide) (fun c48 => ?_) (fun c48 => ?_)
    · refine am_iload (i := 4) dM_folded_55 rfl ?_
      refine am_iconst (v := 4) dM_folded_57 (by decide) ?_
      refine am_icmp_ne (tgt := 65) dM_folded_58 (by decide) (fun c58 => ?_) (fun c58 => ?_)
      · refine am_iload (i := 4) dM_folded_65 rfl ?_
        refine am_iconst (v := 5) dM_folded_67 (by decide) ?_
        refine am_icmp_ne (tgt := 82) dM_folded_68 (by decide) (fun c68 => ?_) (fun c68 => ?_)
        · refine am_iload (i := 4) dM_folded_82 rfl ?_
          refine am_bipush (v := 6) dM_folded_84 (by decide) ?_
          refine am_icmp_ne (tgt := 92) dM_folded_86 (by decide) (fun c86 => ?_) (fun c86 => ?_)
          · refine am_iload (i := 4) dM_folded_92 rfl ?_
            refine am_bipush (v := 8) dM_folded_94 (by decide) ?_
            refine am_icmp_ne (tgt := 115) dM_folded_96 (by decide) (fun c96 => ?_) (fun c96 => ?_)
            · refine am_iload (i := 4) dM_folded_115 rfl ?_
              refine am_bipush (v := 9) dM_folded_117 (by decide) ?_
              refine am_icmp_ne (tgt := 159) dM_folded_119 (by decide) (fun c119 => ?_) (fun c119 => ?_)
              · refine am_iload_n (i := 2) dM_folded_159 rfl rfl ?_
                refine am_iret (st := []) rfl rfl dM_folded_160 ?_
                exact k _ (by unfold q_foldV q_fold; grind)
              · refine am_iload_n (i := 2) dM_folded_122 rfl rfl ?_
                refine am_aload_n (i := 0) dM_folded_123 rfl rfl ?_
                refine am_getf dM_folded_124 flM_19 (by first | rfl | exact sk8 (by omega) | exact sk9 (by omega) | exact sk10 (by omega) | exact sk11 (by omega)) rfl ?_
                refine am_iload_n (i := 1) dM_folded_127 rfl rfl ?_
                refine am_iald dM_folded_128 (by first | rfl | exact sk8 (by omega) | exact sk9 (by omega) | exact sk10 (by omega) | exact sk11 (by omega)) rfl (by first | omega | assumption | decide) (by decide) (by decide) (by first | exact congrArg am_I (mkd_lo (by omega)) | exact congrArg am_I (mkd_hi (by omega)) | rfl) ?_
                refine am_if_ne (tgt := 146) dM_folded_129 (by decide) (fun c129 => ?_) (fun c129 => ?_)
                · refine am_aload_n (i := 0) dM_folded_146 rfl rfl ?_
                  refine am_getf dM_folded_147 flM_28 (by first | rfl | exact sk8 (by omega) | exact sk9 (by omega) | exact sk10 (by omega) | exact sk11 (by omega)) rfl ?_
                  refine am_aload_n (i := 0) dM_folded_150 rfl rfl ?_
                  refine am_getf dM_folded_151 flM_13 (by first | rfl | exact sk8 (by omega) | exact sk9 (by omega) | exact sk10 (by omega) | exact sk11 (by omega)) rfl ?_
                  refine am_iload_n (i := 1) dM_folded_154 rfl rfl ?_
                  refine am_iald dM_folded_155 (by first | rfl | exact sk8 (by omega) | exact sk9 (by omega) | exact sk10 (by omega) | exact sk11 (by omega)) rfl (by first | omega | assumption | decide) (by decide) (by decide) (by first | exact congrArg am_I (mkd_lo (by omega)) | exact congrArg am_I (mkd_hi (by omega)) | rfl) ?_
                  refine am_iald dM_folded_156 (by first | rfl | exact sk8 (by omega) | exact sk9 (by omega) | exact sk10 (by omega) | exact sk11 (by omega)) e3 (by first | omega | assumption | decide) (by decide) (by decide) (by first | exact congrArg am_I (mkd_lo (by omega)) | exact congrArg am_I (mkd_hi (by omega)) | rfl) ?_
                  refine am_imul dM_folded_157 ?_
                  refine am_iret (st := []) rfl rfl dM_folded_158 ?_
                  exact k _ (by unfold q_foldV q_fold; grind)
                · refine am_aload_n (i := 0) dM_folded_132 rfl rfl ?_
                  refine am_getf dM_folded_133 flM_25 (by first | rfl | exact sk8 (by omega) | exact sk9 (by omega) | exact sk10 (by omega) | exact sk11 (by omega)) rfl ?_
                  refine am_aload_n (i := 0) dM_folded_136 rfl rfl ?_
                  refine am_getf dM_folded_137 flM_13 (by first | rfl | exact sk8 (by omega) | exact sk9 (by omega) | exact sk10 (by omega) | exact sk11 (by omega)) rfl ?_
                  refine am_iload_n (i := 1) dM_folded_140 rfl rfl ?_
                  refine am_iald dM_folded_141 (by first | rfl | exact sk8 (by omega) | exact sk9 (by omega) | exact sk10 (by omega) | exact sk11 (by omega)) rfl (by first | omega | assumption | decide) (by decide) (by decide) (by first | exact congrArg am_I (mkd_lo (by omega)) | exact congrArg am_I (mkd_hi (by omega)) | rfl) ?_
                  refine am_iald dM_folded_142 (by first | rfl | exact sk8 (by omega) | exact sk9 (by omega) | exact sk10 (by omega) | exact sk11 (by omega)) e3 (by first | omega | assumption | decide) (by decide) (by decide) (by first | exact congrArg am_I (mkd_lo (by omega)) | exact congrArg am_I (mkd_hi (by omega)) | rfl) ?_
                  refine am_goto (tgt := 157) dM_folded_143 (by decide) ?_
                  refine am_imul dM_folded_157 ?_
                  refine am_iret (st := []) rfl rfl dM_folded_158 ?_
                  exact k _ (by unfold q_foldV q_fold; grind)
            · refine am_iload_n (i := 2) dM_folded_99 rfl rfl ?_
              refine am_iload_n (i := 3) dM_folded_100 rfl rfl ?_
              refine am_imul dM_folded_101 ?_
              refine am_aload_n (i := 0) dM_folded_102 rfl rfl ?_
              refine am_getf dM_folded_103 flM_28 (by first | rfl | exact sk8 (by omega) | exact sk9 (by omega) | exact sk10 (by omega) | exact sk11 (by omega)) rfl ?_
              refine am_aload_n (i := 0) dM_folded_106 rfl rfl ?_
              refine am_getf dM_folded_107 flM_13 (by first | rfl | exact sk8 (by omega) | exact sk9 (by omega) | exact sk10 (by omega) | exact sk11 (by omega)) rfl ?_
              refine am_iload_n (i := 1) dM_folded_110 rfl rfl ?_
              refine am_iald dM_folded_111 (by first | rfl | exact sk8 (by omega) | exact sk9 (by omega) | exact sk10 (by omega) | exact sk11 (by omega)) rfl (by first | omega | assumption | decide) (by decide) (by decide) (by first | exact congrArg am_I (mkd_lo (by omega)) | exact congrArg am_I (mkd_hi (by omega)) | rfl) ?_
              refine am_iald dM_folded_112 (by first | rfl | exact sk8 (by omega) | exact sk9 (by omega) | exact sk10 (by omega) | exact sk11 (by omega)) e3 (by first | omega | assumption | decide) (by decide) (by decide) (by first | exact congrArg am_I (mkd_lo (by omega)) | exact congrArg am_I (mkd_hi (by omega)) | rfl) ?_
              refine am_imul dM_folded_113 ?_
              refine am_iret (st := []) rfl rfl dM_folded_114 ?_
              exact k _ (by unfold q_foldV q_fold; grind)
          · refine am_iload_n (i := 2) dM_folded_89 rfl rfl ?_
            refine am_ineg dM_folded_90 ?_
            refine am_iret (st := []) rfl rfl dM_folded_91 ?_
            exact k _ (by unfold q_foldV q_fold; grind)
        · refine am_iload_n (i := 2) dM_folded_71 rfl rfl ?_
          refine am_iload_n (i := 3) dM_folded_72 rfl rfl ?_
          refine am_icmp_le (tgt := 80) dM_folded_73 (by decide) (fun c73 => ?_) (fun c73 => ?_)
          · refine am_iload_n (i := 3) dM_folded_80 rfl rfl ?_
            refine am_iret (st := []) rfl rfl dM_folded_81 ?_
            exact k _ (by unfold q_foldV q_fold; grind)
          · refine am_iload_n (i := 2) dM_folded_76 rfl rfl ?_
            refine am_goto (tgt := 81) dM_folded_77 (by decide) ?_
            refine am_iret (st := []) rfl rfl dM_folded_81 ?_
            exact k _ (by unfold q_foldV q_fold; grind)
      · refine am_iload_n (i := 2) dM_folded_61 rfl rfl ?_
        refine am_iload_n (i := 3) dM_folded_62 rfl rfl ?_
        refine am_imul dM_folded_63 ?_
        refine am_iret (st := []) rfl rfl dM_folded_64 ?_
        exact k _ (by unfold q_foldV q_fold; grind)
    · refine am_iload_n (i := 2) dM_folded_51 rfl rfl ?_
      refine am_iload_n (i := 3) dM_folded_52 rfl rfl ?_
      refine am_iadd dM_folded_53 ?_
      refine am_iret (st := []) rfl rfl dM_folded_54 ?_
      exact k _ (by unfold q_foldV q_fold; grind)
set_option maxRecDepth 100000 in
set_option maxHeartbeats 4000000 in
theorem cM_alike {g : am_G} {d : Nat} {Q : Option am_V → am_H → Prop} {X : Nat → Nat → Nat → am_V} {A P : Nat → Nat → Int32} {st mk pa ce wd us : Nat → Int32} {va si : Int32} {v u : Nat} (hv : v < 28) (hu : u < 28) (h1 : (q_like P v u) → Q (some (am_I 1)) (hm X (ym A P st mk pa ce wd us va si))) (h0 : ¬ (q_like P v u) → Q (some (am_I 0)) (hm X (ym A P st mk pa ce wd us va si))) : am_C g mM_alike (d + 1) 0 0 [am_O 20 0, am_I (nI v), am_I (nI u)] (hm X (ym A P st mk pa ce wd us va si)) Q := by
  refine am_enter (lv := [some (am_O 20 0), some (am_I (nI v)), some (am_I (nI u))]) rfl rfl (am_cat1 rfl) (Nat.le_of_ble_eq_true rfl) ?_
  refine am_aload_n (i := 0) dM_alike_0 rfl rfl ?_
  refine am_getf dM_alike_1 flM_7 (by first | rfl | exact sk8 (by omega) | exact sk9 (by omega) | exact sk10 (by omega) | exact sk11 (by omega)) rfl ?_
  refine am_iload_n (i := 1) dM_alike_4 rfl rfl ?_
  refine am_iald dM_alike_5 (by first | rfl | exact sk8 (by omega) | exact sk9 (by omega) | exact sk10 (by omega) | exact sk11 (by omega)) rfl (by first | omega | assumption | decide) (by decide) (by decide) (by first | exact congrArg am_I (mkd_lo (by omega)) | exact congrArg am_I (mkd_hi (by omega)) | rfl) ?_
  refine am_aload_n (i := 0) dM_alike_6 rfl rfl ?_
  refine am_getf dM_alike_7 flM_7 (by first | rfl | exact sk8 (by omega) | exact sk9 (by omega) | exact sk10 (by omega) | exact sk11 (by omega)) rfl ?_
  refine am_iload_n (i := 2) dM_alike_10 rfl rfl ?_
  refine am_iald dM_alike_11 (by first | rfl | exact sk8 (by omega) | exact sk9 (by omega) | exact sk10 (by omega) | exact sk11 (by omega)) rfl (by first | omega | assumption | decide) (by decide) (by decide) (by first | exact congrArg am_I (mkd_lo (by omega)) | exact congrArg am_I (mkd_hi (by omega)) | rfl) ?_
  refine am_icmp_ne (tgt := 88) dM_alike_12 (by decide) (fun c12 => ?_) (fun c12 => ?_)
  · refine am_iconst (v := 0) dM_alike_88 (by decide) ?_
    refine am_iret (st := []) rfl rfl dM_alike_89 ?_
    first | exact h1 (by grind) | exact h0 (by grind)
  · refine am_aload_n (i := 0) dM_alike_15 rfl rfl ?_
    refine am_getf dM_alike_16 flM_13 (by first | rfl | exact sk8 (by omega) | exact sk9 (by omega) | exact sk10 (by omega) | exact sk11 (by omega)) rfl ?_
    refine am_iload_n (i := 1) dM_alike_19 rfl rfl ?_
    refine am_iald dM_alike_20 (by first | rfl | exact sk8 (by omega) | exact sk9 (by omega) | exact sk10 (by omega) | exact sk11 (by omega)) rfl (by first | omega | assumption | decide) (by decide) (by decide) (by first | exact congrArg am_I (mkd_lo (by omega)) | exact congrArg am_I (mkd_hi (by omega)) | rfl) ?_
    refine am_aload_n (i := 0) dM_alike_21 rfl rfl ?_
    refine am_getf dM_alike_22 flM_13 (by first | rfl | exact sk8 (by omega) | exact sk9 (by omega) | exact sk10 (by omega) | exact sk11 (by omega)) rfl ?_
    refine am_iload_n (i := 2) dM_alike_25 rfl rfl ?_
    refine am_iald dM_alike_26 (by first | rfl | exact sk8 (by omega) | exact sk9 (by omega) | exact sk10 (by omega) | exact sk11 (by omega)) rfl (by first | omega | assumption | decide) (by decide) (by decide) (by first | exact congrArg am_I (mkd_lo (by omega)) | exact congrArg am_I (mkd_hi (by omega)) | rfl) ?_
    refine am_icmp_ne (tgt := 88) dM_alike_27 (by decide) (fun c27 => ?_) (fun c27 => ?_)
    · refine am_iconst (v := 0) dM_alike_88 (by decide) ?_
      refine am_iret (st := []) rfl rfl dM_alike_89 ?_
      first | exact h1 (by grind) | exact h0 (by grind)
    · refine am_aload_n (i := 0) dM_alike_30 rfl rfl ?_
      refine am_getf dM_alike_31 flM_16 (by first | rfl | exact sk8 (by omega) | exact sk9 (by omega) | exact sk10 (by omega) | exact sk11 (by omega)) rfl ?_
      refine am_iload_n (i := 1) dM_alike_34 rfl rfl ?_
      refine am_iald dM_alike_35 (by first | rfl | exact sk8 (by omega) | exact sk9 (by omega) | exact sk10 (by omega) | exact sk11 (by omega)) rfl (by first | omega | assumption | decide) (by decide) (by decide) (by first | exact congrArg am_I (mkd_lo (by omega)) | exact congrArg am_I (mkd_hi (by omega)) | rfl) ?_
      refine am_aload_n (i := 0) dM_alike_36 rfl rfl ?_
      refine am_getf dM_alike_37 flM_16 (by first | rfl | exact sk8 (by omega) | exact sk9 (by omega) | exact sk10 (by omega) | exact sk11 (by omega)) rfl ?_
      refine am_iload_n (i := 2) dM_alike_40 rfl rfl ?_
      refine am_iald dM_alike_41 (by first | rfl | exact sk8 (by omega) | exact sk9 (by omega) | exact sk10 (by omega) | exact sk11 (by omega)) rfl (by first | omega | assumption | decide) (by decide) (by decide) (by first | exact congrArg am_I (mkd_lo (by omega)) | exact congrArg am_I (mkd_hi (by omega)) | rfl) ?_
      refine am_icmp_ne (tgt := 88) dM_alike_42 (by decide) (fun c42 => ?_) (fun c42 => ?_)
      · refine am_iconst (v := 0) dM_alike_88 (by decide) ?_
        refine am_iret (st := []) rfl rfl dM_alike_89 ?_
        first | exact h1 (by grind) | exact h0 (by grind)
      · refine am_aload_n (i := 0) dM_alike_45 rfl rfl ?_
        refine am_getf dM_alike_46 flM_19 (by first | rfl | exact sk8 (by omega) | exact sk9 (by omega) | exact sk10 (by omega) | exact sk11 (by omega)) rfl ?_
        refine am_iload_n (i := 1) dM_alike_49 rfl rfl ?_
        refine am_iald dM_alike_50 (by first | rfl | exact sk8 (by omega) | exact sk9 (by omega) | exact sk10 (by omega) | exact sk11 (by omega)) rfl (by first | omega | assumption | decide) (by decide) (by decide) (by first | exact congrArg am_I (mkd_lo (by omega)) | exact congrArg am_I (mkd_hi (by omega)) | rfl) ?_
        refine am_aload_n (i := 0) dM_alike_51 rfl rfl ?_
        refine am_getf dM_alike_52 flM_19 (by first | rfl | exact sk8 (by omega) | exact sk9 (by omega) | exact sk10 (by omega) | exact sk11 (by omega)) rfl ?_
        refine am_iload_n (i := 2) dM_alike_55 rfl rfl ?_
        refine am_iald dM_alike_56 (by first | rfl | exact sk8 (by omega) | exact sk9 (by omega) | exact sk10 (by omega) | exact sk11 (by omega)) rfl (by first | omega | assumption | decide) (by decide) (by decide) (by first | exact congrArg am_I (mkd_lo (by omega)) | exact congrArg am_I (mkd_hi (by omega)) | rfl) ?_
        refine am_icmp_ne (tgt := 88) dM_alike_57 (by decide) (fun c57 => ?_) (fun c57 => ?_)
        · refine am_iconst (v := 0) dM_alike_88 (by decide) ?_
          refine am_iret (st := []) rfl rfl dM_alike_89 ?_
          first | exact h1 (by grind) | exact h0 (by grind)
        · refine am_aload_n (i := 0) dM_alike_60 rfl rfl ?_
          refine am_getf dM_alike_61 flM_22 (by first | rfl | exact sk8 (by omega) | exact sk9 (by omega) | exact sk10 (by omega) | exact sk11 (by omega)) rfl ?_
          refine am_iload_n (i := 1) dM_alike_64 rfl rfl ?_
          refine am_iald dM_alike_65 (by first | rfl | exact sk8 (by omega) | exact sk9 (by omega) | exact sk10 (by omega) | exact sk11 (by omega)) rfl (by first | omega | assumption | decide) (by decide) (by decide) (by first | exact congrArg am_I (mkd_lo (by omega)) | exact congrArg am_I (mkd_hi (by omega)) | rfl) ?_
          refine am_aload_n (i := 0) dM_alike_66 rfl rfl ?_
          refine am_getf dM_alike_67 flM_22 (by first | rfl | exact sk8 (by omega) | exact sk9 (by omega) | exact sk10 (by omega) | exact sk11 (by omega)) rfl ?_
          refine am_iload_n (i := 2) dM_alike_70 rfl rfl ?_
          refine am_iald dM_alike_71 (by first | rfl | exact sk8 (by omega) | exact sk9 (by omega) | exact sk10 (by omega) | exact sk11 (by omega)) rfl (by first | omega | assumption | decide) (by decide) (by decide) (by first | exact congrArg am_I (mkd_lo (by omega)) | exact congrArg am_I (mkd_hi (by omega)) | rfl) ?_
          refine am_icmp_ne (tgt := 88) dM_alike_72 (by decide) (fun c72 => ?_) (fun c72 => ?_)
          · refine am_iconst (v := 0) dM_alike_88 (by decide) ?_
            refine am_iret (st := []) rfl rfl dM_alike_89 ?_
            first | exact h1 (by grind) | exact h0 (by grind)
          · refine am_aload_n (i := 0) dM_alike_75 rfl rfl ?_
            refine am_iload_n (i := 1) dM_alike_76 rfl rfl ?_
            refine am_iload_n (i := 2) dM_alike_77 rfl rfl ?_
            refine am_callV (ac' := 0) (as' := 0) (xs := [_, _]) dM_alike_78 lkM_88 (by first | rfl | exact sk8 (by omega) | exact sk9 (by omega) | exact sk10 (by omega) | exact sk11 (by omega)) rfl rfl rfl rfl (Nat.le_of_ble_eq_true rfl) rfl rfl (cM_sameShape hv hu rfl rfl (fun cs => ?_) (fun cs => ?_))
            · refine am_if_eq_F (tgt := 88) dM_alike_81 (by decide) (by decide) ?_
              refine am_iconst (v := 1) dM_alike_84 (by decide) ?_
              refine am_goto (tgt := 89) dM_alike_85 (by decide) ?_
              refine am_iret (st := []) rfl rfl dM_alike_89 ?_
              first | exact h1 (by grind) | exact h0 (by grind)
            · refine am_if_eq_T (tgt := 88) dM_alike_81 (by decide) (by decide) ?_
              refine am_iconst (v := 0) dM_alike_88 (by decide) ?_
              refine am_iret (st := []) rfl rfl dM_alike_89 ?_
              first | exact h1 (by grind) | exact h0 (by grind)
