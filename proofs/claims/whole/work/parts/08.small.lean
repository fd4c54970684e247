/-! ===== pure words ===== -/
theorem nI_ix {a : Nat} (h : a < 28) : (nI a).toNatClampNeg = a := nI_clamp (by omega)
theorem nI_m1 {a : Nat} (h : a < 28) : ¬ nI a = -1 := fun q => by
  have h1 := congrArg Int32.toInt q
  rw [nI_toInt (by omega)] at h1
  have h2 : (-1 : Int32).toInt = -1 := by decide
  omega
theorem nI_inj {a b : Nat} (ha : a < 65536) (hb : b < 65536) (h : nI a = nI b) : a = b := (nI_eq (by omega) (by omega)).mp h
theorem nI_lt' {a b : Nat} (ha : a < 65536) (hb : b < 65536) : nI a < nI b ↔ a < b := nI_ltI (by omega) (by omega)
theorem nI_le' {a b : Nat} (ha : a < 65536) (hb : b < 65536) : nI a ≤ nI b ↔ a ≤ b := nI_leI (by omega) (by omega)
def ix (x : Int32) : Nat := x.toNatClampNeg
theorem ix_nI {a : Nat} (h : a < 65536) : ix (nI a) = a := nI_clamp (by omega)
/-- an argument: none, or a value below v -/
def q_arg (x : Int32) (v : Nat) : Prop := x = -1 ∨ ∃ a, a < v ∧ x = nI a
theorem q_arg.ix {x : Int32} {v : Nat} (h : q_arg x v) (hn : ¬ x = -1) (hv : v ≤ 28) : ix x < v ∧ x = nI (ix x) := by
  obtain ⟨a, ha, rfl⟩ := h.resolve_left hn
  rw [ix_nI (by omega)]
  exact ⟨ha, rfl⟩
def q_fold (k x y r c p : Int32) : Int32 := if k = 3 then x + y else if k = 4 then x * y else if k = 5 then (if x < y then y else x) else if k = 6 then -x else if k = 8 then x * y * c else if k = 9 then x * (if p = 0 then r else c) else x
theorem q_foldD {k x y r c p : Int32} (h : k.toInt < 3 ∨ 9 < k.toInt) : q_fold k x y r c p = x := by
  have n : ∀ j : Int32, 3 ≤ j.toInt → j.toInt ≤ 9 → ¬ k = j := fun j a b q => by subst q; omega
  unfold q_fold
  rw [if_neg (n 3 (by decide) (by decide)), if_neg (n 4 (by decide) (by decide)), if_neg (n 5 (by decide) (by decide)), if_neg (n 6 (by decide) (by decide)), if_neg (n 8 (by decide) (by decide)), if_neg (n 9 (by decide) (by decide))]
def q_foldV (P : Nat → Nat → Int32) (v : Nat) : Int32 := q_fold (P v 0) (P (ix (P v 3)) 5) (if P v 4 = -1 then 0 else P (ix (P v 4)) 5) (P (ix (P v 3)) 1) (P (ix (P v 3)) 2) (P v 5)
abbrev q_only (P : Nat → Nat → Int32) (v : Nat) : Prop := ¬ P v 3 = -1 ∧ P (ix (P v 3)) 0 = 1 ∧ (P v 4 = -1 ∨ P (ix (P v 4)) 0 = 1)
abbrev q_spl (P : Nat → Nat → Int32) (x z : Int32) : Prop := P (ix x) 0 = 1 ∧ P (ix x) 5 = z
abbrev q_shp (P : Nat → Nat → Int32) (v u : Nat) : Prop := P v 1 = P u 1 ∧ P v 2 = P u 2
abbrev q_like (P : Nat → Nat → Int32) (v u : Nat) : Prop := P v 0 = P u 0 ∧ P v 3 = P u 3 ∧ P v 4 = P u 4 ∧ P v 5 = P u 5 ∧ P v 6 = P u 6 ∧ P v 1 = P u 1 ∧ P v 2 = P u 2
abbrev q_res (k : Int32) : Prop := k = 10 ∨ k = 11 ∨ k = 12
abbrev q_tw (k : Int32) : Prop := k = 6 ∨ k = 7 ∨ k = 11
def q_work (P : Nat → Nat → Int32) (v : Nat) : Int32 := if ¬ 2 < P v 0 then 0 else if P v 0 = 8 then P v 1 * P v 2 * P (ix (P v 3)) 2 else if P v 0 = 9 then P (ix (P v 3)) 1 * P (ix (P v 3)) 2 else P v 1 * P v 2
theorem sw_0_6 (x : Int32) : x = 0 ∨ x = 1 ∨ x = 2 ∨ x = 3 ∨ x = 4 ∨ x = 5 ∨ x = 6 ∨ (x.toInt < 0 ∨ 6 < x.toInt) := by
  have h : x.toInt = 0 ∨ x.toInt = 1 ∨ x.toInt = 2 ∨ x.toInt = 3 ∨ x.toInt = 4 ∨ x.toInt = 5 ∨ x.toInt = 6 ∨ (x.toInt < 0 ∨ 6 < x.toInt) := by omega
  rcases h with h | h | h | h | h | h | h | h
  · exact Or.inl (Int32.toInt_inj.mp (h.trans (by decide)))
  · exact Or.inr (Or.inl (Int32.toInt_inj.mp (h.trans (by decide))))
  · exact Or.inr (Or.inr (Or.inl (Int32.toInt_inj.mp (h.trans (by decide)))))
  · exact Or.inr (Or.inr (Or.inr (Or.inl (Int32.toInt_inj.mp (h.trans (by decide))))))
  · exact Or.inr (Or.inr (Or.inr (Or.inr (Or.inl (Int32.toInt_inj.mp (h.trans (by decide)))))))
  · exact Or.inr (Or.inr (Or.inr (Or.inr (Or.inr (Or.inl (Int32.toInt_inj.mp (h.trans (by decide))))))))
  · exact Or.inr (Or.inr (Or.inr (Or.inr (Or.inr (Or.inr (Or.inl (Int32.toInt_inj.mp (h.trans (by decide)))))))))
  · exact Or.inr (Or.inr (Or.inr (Or.inr (Or.inr (Or.inr (Or.inr (h)))))))
theorem sw_0_7 (x : Int32) : x = 0 ∨ x = 1 ∨ x = 2 ∨ x = 3 ∨ x = 4 ∨ x = 5 ∨ x = 6 ∨ x = 7 ∨ (x.toInt < 0 ∨ 7 < x.toInt) := by
  have h : x.toInt = 0 ∨ x.toInt = 1 ∨ x.toInt = 2 ∨ x.toInt = 3 ∨ x.toInt = 4 ∨ x.toInt = 5 ∨ x.toInt = 6 ∨ x.toInt = 7 ∨ (x.toInt < 0 ∨ 7 < x.toInt) := by omega
  rcases h with h | h | h | h | h | h | h | h | h
  · exact Or.inl (Int32.toInt_inj.mp (h.trans (by decide)))
  · exact Or.inr (Or.inl (Int32.toInt_inj.mp (h.trans (by decide))))
  · exact Or.inr (Or.inr (Or.inl (Int32.toInt_inj.mp (h.trans (by decide)))))
  · exact Or.inr (Or.inr (Or.inr (Or.inl (Int32.toInt_inj.mp (h.trans (by decide))))))
  · exact Or.inr (Or.inr (Or.inr (Or.inr (Or.inl (Int32.toInt_inj.mp (h.trans (by decide)))))))
  · exact Or.inr (Or.inr (Or.inr (Or.inr (Or.inr (Or.inl (Int32.toInt_inj.mp (h.trans (by decide))))))))
  · exact Or.inr (Or.inr (Or.inr (Or.inr (Or.inr (Or.inr (Or.inl (Int32.toInt_inj.mp (h.trans (by decide)))))))))
  · exact Or.inr (Or.inr (Or.inr (Or.inr (Or.inr (Or.inr (Or.inr (Or.inl (Int32.toInt_inj.mp (h.trans (by decide))))))))))
  · exact Or.inr (Or.inr (Or.inr (Or.inr (Or.inr (Or.inr (Or.inr (Or.inr (h))))))))
theorem sw_0_9 (x : Int32) : x = 0 ∨ x = 1 ∨ x = 2 ∨ x = 3 ∨ x = 4 ∨ x = 5 ∨ x = 6 ∨ x = 7 ∨ x = 8 ∨ x = 9 ∨ (x.toInt < 0 ∨ 9 < x.toInt) := by
  have h : x.toInt = 0 ∨ x.toInt = 1 ∨ x.toInt = 2 ∨ x.toInt = 3 ∨ x.toInt = 4 ∨ x.toInt = 5 ∨ x.toInt = 6 ∨ x.toInt = 7 ∨ x.toInt = 8 ∨ x.toInt = 9 ∨ (x.toInt < 0 ∨ 9 < x.toInt) := by omega
  rcases h with h | h | h | h | h | h | h | h | h | h | h
  · exact Or.inl (Int32.toInt_inj.mp (h.trans (by decide)))
  · exact Or.inr (Or.inl (Int32.toInt_inj.mp (h.trans (by decide))))
  · exact Or.inr (Or.inr (Or.inl (Int32.toInt_inj.mp (h.trans (by decide)))))
  · exact Or.inr (Or.inr (Or.inr (Or.inl (Int32.toInt_inj.mp (h.trans (by decide))))))
  · exact Or.inr (Or.inr (Or.inr (Or.inr (Or.inl (Int32.toInt_inj.mp (h.trans (by decide)))))))
  · exact Or.inr (Or.inr (Or.inr (Or.inr (Or.inr (Or.inl (Int32.toInt_inj.mp (h.trans (by decide))))))))
  · exact Or.inr (Or.inr (Or.inr (Or.inr (Or.inr (Or.inr (Or.inl (Int32.toInt_inj.mp (h.trans (by decide)))))))))
  · exact Or.inr (Or.inr (Or.inr (Or.inr (Or.inr (Or.inr (Or.inr (Or.inl (Int32.toInt_inj.mp (h.trans (by decide))))))))))
  · exact Or.inr (Or.inr (Or.inr (Or.inr (Or.inr (Or.inr (Or.inr (Or.inr (Or.inl (Int32.toInt_inj.mp (h.trans (by decide)))))))))))
  · exact Or.inr (Or.inr (Or.inr (Or.inr (Or.inr (Or.inr (Or.inr (Or.inr (Or.inr (Or.inl (Int32.toInt_inj.mp (h.trans (by decide))))))))))))
  · exact Or.inr (Or.inr (Or.inr (Or.inr (Or.inr (Or.inr (Or.inr (Or.inr (Or.inr (Or.inr (h))))))))))
theorem sw_0_11 (x : Int32) : x = 0 ∨ x = 1 ∨ x = 2 ∨ x = 3 ∨ x = 4 ∨ x = 5 ∨ x = 6 ∨ x = 7 ∨ x = 8 ∨ x = 9 ∨ x = 10 ∨ x = 11 ∨ (x.toInt < 0 ∨ 11 < x.toInt) := by
  have h : x.toInt = 0 ∨ x.toInt = 1 ∨ x.toInt = 2 ∨ x.toInt = 3 ∨ x.toInt = 4 ∨ x.toInt = 5 ∨ x.toInt = 6 ∨ x.toInt = 7 ∨ x.toInt = 8 ∨ x.toInt = 9 ∨ x.toInt = 10 ∨ x.toInt = 11 ∨ (x.toInt < 0 ∨ 11 < x.toInt) := by omega
  rcases h with h | h | h | h | h | h | h | h | h | h | h | h | h
  · exact Or.inl (Int32.toInt_inj.mp (h.trans (by decide)))
  · exact Or.inr (Or.inl (Int32.toInt_inj.mp (h.trans (by decide))))
  · exact Or.inr (Or.inr (Or.inl (Int32.toInt_inj.mp (h.trans (by decide)))))
  · exact Or.inr (Or.inr (Or.inr (Or.inl (Int32.toInt_inj.mp (h.trans (by decide))))))
  · exact Or.inr (Or.inr (Or.inr (Or.inr (Or.inl (Int32.toInt_inj.mp (h.trans (by decide)))))))
  · exact Or.inr (Or.inr (Or.inr (Or.inr (Or.inr (Or.inl (Int32.toInt_inj.mp (h.trans (by decide))))))))
  · exact Or.inr (Or.inr (Or.inr (Or.inr (Or.inr (Or.inr (Or.inl (Int32.toInt_inj.mp (h.trans (by decide)))))))))
  · exact Or.inr (Or.inr (Or.inr (Or.inr (Or.inr (Or.inr (Or.inr (Or.inl (Int32.toInt_inj.mp (h.trans (by decide))))))))))
  · exact Or.inr (Or.inr (Or.inr (Or.inr (Or.inr (Or.inr (Or.inr (Or.inr (Or.inl (Int32.toInt_inj.mp (h.trans (by decide)))))))))))
  · exact Or.inr (Or.inr (Or.inr (Or.inr (Or.inr (Or.inr (Or.inr (Or.inr (Or.inr (Or.inl (Int32.toInt_inj.mp (h.trans (by decide))))))))))))
  · exact Or.inr (Or.inr (Or.inr (Or.inr (Or.inr (Or.inr (Or.inr (Or.inr (Or.inr (Or.inr (Or.inl (Int32.toInt_inj.mp (h.trans (by decide)))))))))))))
  · exact Or.inr (Or.inr (Or.inr (Or.inr (Or.inr (Or.inr (Or.inr (Or.inr (Or.inr (Or.inr (Or.inr (Or.inl (Int32.toInt_inj.mp (h.trans (by decide))))))))))))))
  · exact Or.inr (Or.inr (Or.inr (Or.inr (Or.inr (Or.inr (Or.inr (Or.inr (Or.inr (Or.inr (Or.inr (Or.inr (h))))))))))))
theorem sw_3_9 (x : Int32) : x = 3 ∨ x = 4 ∨ x = 5 ∨ x = 6 ∨ x = 7 ∨ x = 8 ∨ x = 9 ∨ (x.toInt < 3 ∨ 9 < x.toInt) := by
  have h : x.toInt = 3 ∨ x.toInt = 4 ∨ x.toInt = 5 ∨ x.toInt = 6 ∨ x.toInt = 7 ∨ x.toInt = 8 ∨ x.toInt = 9 ∨ (x.toInt < 3 ∨ 9 < x.toInt) := by omega
  rcases h with h | h | h | h | h | h | h | h
  · exact Or.inl (Int32.toInt_inj.mp (h.trans (by decide)))
  · exact Or.inr (Or.inl (Int32.toInt_inj.mp (h.trans (by decide))))
  · exact Or.inr (Or.inr (Or.inl (Int32.toInt_inj.mp (h.trans (by decide)))))
  · exact Or.inr (Or.inr (Or.inr (Or.inl (Int32.toInt_inj.mp (h.trans (by decide))))))
  · exact Or.inr (Or.inr (Or.inr (Or.inr (Or.inl (Int32.toInt_inj.mp (h.trans (by decide)))))))
  · exact Or.inr (Or.inr (Or.inr (Or.inr (Or.inr (Or.inl (Int32.toInt_inj.mp (h.trans (by decide))))))))
  · exact Or.inr (Or.inr (Or.inr (Or.inr (Or.inr (Or.inr (Or.inl (Int32.toInt_inj.mp (h.trans (by decide)))))))))
  · exact Or.inr (Or.inr (Or.inr (Or.inr (Or.inr (Or.inr (Or.inr (h)))))))
set_option maxRecDepth 100000 in
set_option maxHeartbeats 4000000 in
theorem cC_isShape {g : am_G} {d : Nat} {Q : Option am_V → am_H → Prop} {Y : Nat → Nat → Nat → am_V} {A P : Nat → Nat → Int32} {st mk lv : Nat → Int32} {cl pr : Nat → Nat → Int32} {us : Nat → Int32} {va si wk : Int32} {x y : Int32} (h1 : (¬ x < 1 ∧ ¬ 4 < x ∧ ¬ y < 1 ∧ ¬ 4 < y) → Q (some (am_I 1)) (hm (xc A P st mk lv cl pr us va si wk) Y)) (h0 : ¬ (¬ x < 1 ∧ ¬ 4 < x ∧ ¬ y < 1 ∧ ¬ 4 < y) → Q (some (am_I 0)) (hm (xc A P st mk lv cl pr us va si wk) Y)) : am_C g mC_isShape d 0 0 [am_I x, am_I y] (hm (xc A P st mk lv cl pr us va si wk) Y) Q := by
  refine am_enter (lv := [some (am_I x), some (am_I y)]) rfl rfl (am_cat1 rfl) (Nat.le_of_ble_eq_true rfl) ?_
  refine am_iload_n (i := 0) dC_isShape_0 rfl rfl ?_
  refine am_iconst (v := 1) dC_isShape_1 (by decide) ?_
  refine am_icmp_lt (tgt := 24) dC_isShape_2 (by decide) (fun c2 => ?_) (fun c2 => ?_)
  · refine am_iconst (v := 0) dC_isShape_24 (by decide) ?_
    refine am_iret (st := []) rfl rfl dC_isShape_25 ?_
    first | exact h1 (by grind) | exact h0 (by grind)
  · refine am_iload_n (i := 0) dC_isShape_5 rfl rfl ?_
    refine am_iconst (v := 4) dC_isShape_6 (by decide) ?_
    refine am_icmp_gt (tgt := 24) dC_isShape_7 (by decide) (fun c7 => ?_) (fun c7 => ?_)
    · refine am_iconst (v := 0) dC_isShape_24 (by decide) ?_
      refine am_iret (st := []) rfl rfl dC_isShape_25 ?_
      first | exact h1 (by grind) | exact h0 (by grind)
    · refine am_iload_n (i := 1) dC_isShape_10 rfl rfl ?_
      refine am_iconst (v := 1) dC_isShape_11 (by decide) ?_
      refine am_icmp_lt (tgt := 24) dC_isShape_12 (by decide) (fun c12 => ?_) (fun c12 => ?_)
      · refine am_iconst (v := 0) dC_isShape_24 (by decide) ?_
        refine am_iret (st := []) rfl rfl dC_isShape_25 ?_
        first | exact h1 (by grind) | exact h0 (by grind)
      · refine am_iload_n (i := 1) dC_isShape_15 rfl rfl ?_
        refine am_iconst (v := 4) dC_isShape_16 (by decide) ?_
        refine am_icmp_gt (tgt := 24) dC_isShape_17 (by decide) (fun c17 => ?_) (fun c17 => ?_)
        · refine am_iconst (v := 0) dC_isShape_24 (by decide) ?_
          refine am_iret (st := []) rfl rfl dC_isShape_25 ?_
          first | exact h1 (by grind) | exact h0 (by grind)
        · refine am_iconst (v := 1) dC_isShape_20 (by decide) ?_
          refine am_goto (tgt := 25) dC_isShape_21 (by decide) ?_
          refine am_iret (st := []) rfl rfl dC_isShape_25 ?_
          first | exact h1 (by grind) | exact h0 (by grind)
set_option maxRecDepth 100000 in
set_option maxHeartbeats 4000000 in
theorem cC_isPlace {g : am_G} {d : Nat} {Q : Option am_V → am_H → Prop} {Y : Nat → Nat → Nat → am_V} {A P : Nat → Nat → Int32} {st mk lv : Nat → Int32} {cl pr : Nat → Nat → Int32} {us : Nat → Int32} {va si wk : Int32} {x y : Int32} (h1 : (¬ x < 0 ∧ ¬ 4 ≤ x ∧ ¬ y < 0 ∧ ¬ 4 ≤ y) → Q (some (am_I 1)) (hm (xc A P st mk lv cl pr us va si wk) Y)) (h0 : ¬ (¬ x < 0 ∧ ¬ 4 ≤ x ∧ ¬ y < 0 ∧ ¬ 4 ≤ y) → Q (some (am_I 0)) (hm (xc A P st mk lv cl pr us va si wk) Y)) : am_C g mC_isPlace d 0 0 [am_I x, am_I y] (hm (xc A P st mk lv cl pr us va si wk) Y) Q := by
  refine am_enter (lv := [some (am_I x), some (am_I y)]) rfl rfl (am_cat1 rfl) (Nat.le_of_ble_eq_true rfl) ?_
  refine am_iload_n (i := 0) dC_isPlace_0 rfl rfl ?_
  refine am_if_lt (tgt := 22) dC_isPlace_1 (by decide) (fun c1 => ?_) (fun c1 => ?_)
  · refine am_iconst (v := 0) dC_isPlace_22 (by decide) ?_
    refine am_iret (st := []) rfl rfl dC_isPlace_23 ?_
    first | exact h1 (by grind) | exact h0 (by grind)
  · refine am_iload_n (i := 0) dC_isPlace_4 rfl rfl ?_
    refine am_iconst (v := 4) dC_isPlace_5 (by decide) ?_
    refine am_icmp_ge (tgt := 22) dC_isPlace_6 (by decide) (fun c6 => ?_) (fun c6 => ?_)
    · refine am_iconst (v := 0) dC_isPlace_22 (by decide) ?_
      refine am_iret (st := []) rfl rfl dC_isPlace_23 ?_
      first | exact h1 (by grind) | exact h0 (by grind)
    · refine am_iload_n (i := 1) dC_isPlace_9 rfl rfl ?_
      refine am_if_lt (tgt := 22) dC_isPlace_10 (by decide) (fun c10 => ?_) (fun c10 => ?_)
      · refine am_iconst (v := 0) dC_isPlace_22 (by decide) ?_
        refine am_iret (st := []) rfl rfl dC_isPlace_23 ?_
        first | exact h1 (by grind) | exact h0 (by grind)
      · refine am_iload_n (i := 1) dC_isPlace_13 rfl rfl ?_
        refine am_iconst (v := 4) dC_isPlace_14 (by decide) ?_
        refine am_icmp_ge (tgt := 22) dC_isPlace_15 (by decide) (fun c15 => ?_) (fun c15 => ?_)
        · refine am_iconst (v := 0) dC_isPlace_22 (by decide) ?_
          refine am_iret (st := []) rfl rfl dC_isPlace_23 ?_
          first | exact h1 (by grind) | exact h0 (by grind)
        · refine am_iconst (v := 1) dC_isPlace_18 (by decide) ?_
          refine am_goto (tgt := 23) dC_isPlace_19 (by decide) ?_
          refine am_iret (st := []) rfl rfl dC_isPlace_23 ?_
          first | exact h1 (by grind) | exact h0 (by grind)
set_option maxRecDepth 100000 in
set_option maxHeartbeats 4000000 in
theorem cC_isSourceNumber {g : am_G} {d : Nat} {Q : Option am_V → am_H → Prop} {Y : Nat → Nat → Nat → am_V} {A P : Nat → Nat → Int32} {st mk lv : Nat → Int32} {cl pr : Nat → Nat → Int32} {us : Nat → Int32} {va si wk : Int32} {x y : Int32} (h1 : (x = 1 ∨ (¬ y < 0 ∧ ((x = 0 ∧ ¬ 4 ≤ y) ∨ (¬ x = 0 ∧ ¬ 2 ≤ y)))) → Q (some (am_I 1)) (hm (xc A P st mk lv cl pr us va si wk) Y)) (h0 : ¬ (x = 1 ∨ (¬ y < 0 ∧ ((x = 0 ∧ ¬ 4 ≤ y) ∨ (¬ x = 0 ∧ ¬ 2 ≤ y)))) → Q (some (am_I 0)) (hm (xc A P st mk lv cl pr us va si wk) Y)) : am_C g mC_isSourceNumber d 0 0 [am_I x, am_I y] (hm (xc A P st mk lv cl pr us va si wk) Y) Q := by
  refine am_enter (lv := [some (am_I x), some (am_I y)]) rfl rfl (am_cat1 rfl) (Nat.le_of_ble_eq_true rfl) ?_
  refine am_iload_n (i := 0) dC_isSourceNumber_0 rfl rfl ?_
  refine am_iconst (v := 1) dC_isSourceNumber_1 (by decide) ?_
  refine am_icmp_ne (tgt := 7) dC_isSourceNumber_2 (by decide) (fun c2 => ?_) (fun c2 => ?_)
  · refine am_iload_n (i := 1) dC_isSourceNumber_7 rfl rfl ?_
    refine am_if_lt (tgt := 28) dC_isSourceNumber_8 (by decide) (fun c8 => ?_) (fun c8 => ?_)
    · refine am_iconst (v := 0) dC_isSourceNumber_28 (by decide) ?_
      refine am_iret (st := []) rfl rfl dC_isSourceNumber_29 ?_
      first | exact h1 (by grind) | exact h0 (by grind)
    · refine am_iload_n (i := 1) dC_isSourceNumber_11 rfl rfl ?_
      refine am_iload_n (i := 0) dC_isSourceNumber_12 rfl rfl ?_
      refine am_if_ne (tgt := 20) dC_isSourceNumber_13 (by decide) (fun c13 => ?_) (fun c13 => ?_)
      · refine am_iconst (v := 2) dC_isSourceNumber_20 (by decide) ?_
        refine am_icmp_ge (tgt := 28) dC_isSourceNumber_21 (by decide) (fun c21 => ?_) (fun c21 => ?_)
        · refine am_iconst (v := 0) dC_isSourceNumber_28 (by decide) ?_
          refine am_iret (st := []) rfl rfl dC_isSourceNumber_29 ?_
          first | exact h1 (by grind) | exact h0 (by grind)
        · refine am_iconst (v := 1) dC_isSourceNumber_24 (by decide) ?_
          refine am_goto (tgt := 29) dC_isSourceNumber_25 (by decide) ?_
          refine am_iret (st := []) rfl rfl dC_isSourceNumber_29 ?_
          first | exact h1 (by grind) | exact h0 (by grind)
      · refine am_iconst (v := 4) dC_isSourceNumber_16 (by decide) ?_
        refine am_goto (tgt := 21) dC_isSourceNumber_17 (by decide) ?_
        refine am_icmp_ge (tgt := 28) dC_isSourceNumber_21 (by decide) (fun c21 => ?_) (fun c21 => ?_)
        · refine am_iconst (v := 0) dC_isSourceNumber_28 (by decide) ?_
          refine am_iret (st := []) rfl rfl dC_isSourceNumber_29 ?_
          first | exact h1 (by grind) | exact h0 (by grind)
        · refine am_iconst (v := 1) dC_isSourceNumber_24 (by decide) ?_
          refine am_goto (tgt := 29) dC_isSourceNumber_25 (by decide) ?_
          refine am_iret (st := []) rfl rfl dC_isSourceNumber_29 ?_
          first | exact h1 (by grind) | exact h0 (by grind)
  · refine am_iconst (v := 1) dC_isSourceNumber_5 (by decide) ?_
    refine am_iret (st := []) rfl rfl dC_isSourceNumber_6 ?_
    first | exact h1 (by grind) | exact h0 (by grind)
set_option maxRecDepth 100000 in
set_option maxHeartbeats 4000000 in
theorem cC_spreads {g : am_G} {d : Nat} {Q : Option am_V → am_H → Prop} {Y : Nat → Nat → Nat → am_V} {A P : Nat → Nat → Int32} {st mk lv : Nat → Int32} {cl pr : Nat → Nat → Int32} {us : Nat → Int32} {va si wk : Int32} {x y : Int32} (h1 : (x = 1 ∨ x = y) → Q (some (am_I 1)) (hm (xc A P st mk lv cl pr us va si wk) Y)) (h0 : ¬ (x = 1 ∨ x = y) → Q (some (am_I 0)) (hm (xc A P st mk lv cl pr us va si wk) Y)) : am_C g mC_spreads d 0 0 [am_I x, am_I y] (hm (xc A P st mk lv cl pr us va si wk) Y) Q := by
  refine am_enter (lv := [some (am_I x), some (am_I y)]) rfl rfl (am_cat1 rfl) (Nat.le_of_ble_eq_true rfl) ?_
  refine am_iload_n (i := 0) dC_spreads_0 rfl rfl ?_
  refine am_iconst (v := 1) dC_spreads_1 (by decide) ?_
  refine am_icmp_eq (tgt := 10) dC_spreads_2 (by decide) (fun c2 => ?_) (fun c2 => ?_)
  · refine am_iconst (v := 1) dC_spreads_10 (by decide) ?_
    refine am_goto (tgt := 15) dC_spreads_11 (by decide) ?_
    refine am_iret (st := []) rfl rfl dC_spreads_15 ?_
    first | exact h1 (by grind) | exact h0 (by grind)
  · refine am_iload_n (i := 0) dC_spreads_5 rfl rfl ?_
    refine am_iload_n (i := 1) dC_spreads_6 rfl rfl ?_
    refine am_icmp_ne (tgt := 14) dC_spreads_7 (by decide) (fun c7 => ?_) (fun c7 => ?_)
    · refine am_iconst (v := 0) dC_spreads_14 (by decide) ?_
      refine am_iret (st := []) rfl rfl dC_spreads_15 ?_
      first | exact h1 (by grind) | exact h0 (by grind)
    · refine am_iconst (v := 1) dC_spreads_10 (by decide) ?_
      refine am_goto (tgt := 15) dC_spreads_11 (by decide) ?_
      refine am_iret (st := []) rfl rfl dC_spreads_15 ?_
      first | exact h1 (by grind) | exact h0 (by grind)
set_option maxRecDepth 100000 in
set_option maxHeartbeats 4000000 in
theorem cC_shapesFit {g : am_G} {d : Nat} {Q : Option am_V → am_H → Prop} {Y : Nat → Nat → Nat → am_V} {A P : Nat → Nat → Int32} {st mk lv : Nat → Int32} {cl pr : Nat → Nat → Int32} {us : Nat → Int32} {va si wk : Int32} {k : Int32} {v u : Nat} (hv : v < 28) (hu : u < 28) (h1 : ((k = 8 ∧ A v 2 = A u 1) ∨ (¬ k = 8 ∧ A v 1 = A u 1 ∧ A v 2 = A u 2)) → Q (some (am_I 1)) (hm (xc A P st mk lv cl pr us va si wk) Y)) (h0 : ¬ ((k = 8 ∧ A v 2 = A u 1) ∨ (¬ k = 8 ∧ A v 1 = A u 1 ∧ A v 2 = A u 2)) → Q (some (am_I 0)) (hm (xc A P st mk lv cl pr us va si wk) Y)) : am_C g mC_shapesFit (d + 1) 0 0 [am_I k, am_O 8 v, am_O 8 u] (hm (xc A P st mk lv cl pr us va si wk) Y) Q := by
  refine am_enter (lv := [some (am_I k), some (am_O 8 v), some (am_O 8 u)]) rfl rfl (am_cat1 rfl) (Nat.le_of_ble_eq_true rfl) ?_
  refine am_iload_n (i := 0) dC_shapesFit_0 rfl rfl ?_
  refine am_bipush (v := 8) dC_shapesFit_1 (by decide) ?_
  refine am_icmp_ne (tgt := 25) dC_shapesFit_3 (by decide) (fun c3 => ?_) (fun c3 => ?_)
  · refine am_aload_n (i := 1) dC_shapesFit_25 rfl rfl ?_
    refine am_aload_n (i := 2) dC_shapesFit_26 rfl rfl ?_
    refine am_callV (ac' := 0) (as' := 0) (xs := [_]) dC_shapesFit_27 lkC_147 (by first | rfl | exact sk8 (by omega) | exact sk9 (by omega) | exact sk10 (by omega) | exact sk11 (by omega)) rfl rfl rfl rfl (Nat.le_of_ble_eq_true rfl) rfl rfl (cO_hasShapeOf8 hv hu (fun cs => ?_) (fun cs => ?_))
    · refine am_iret (st := []) rfl rfl dC_shapesFit_30 ?_
      first | exact h1 (by grind) | exact h0 (by grind)
    · refine am_iret (st := []) rfl rfl dC_shapesFit_30 ?_
      first | exact h1 (by grind) | exact h0 (by grind)
  · refine am_aload_n (i := 1) dC_shapesFit_6 rfl rfl ?_
    refine am_getf dC_shapesFit_7 flC_89 (by first | rfl | exact sk8 (by omega) | exact sk9 (by omega) | exact sk10 (by omega) | exact sk11 (by omega)) rfl ?_
    refine am_aload_n (i := 2) dC_shapesFit_10 rfl rfl ?_
    refine am_getf dC_shapesFit_11 flC_83 (by first | rfl | exact sk8 (by omega) | exact sk9 (by omega) | exact sk10 (by omega) | exact sk11 (by omega)) rfl ?_
    refine am_icmp_ne (tgt := 21) dC_shapesFit_14 (by decide) (fun c14 => ?_) (fun c14 => ?_)
    · refine am_iconst (v := 0) dC_shapesFit_21 (by decide) ?_
      refine am_goto (tgt := 30) dC_shapesFit_22 (by decide) ?_
      refine am_iret (st := []) rfl rfl dC_shapesFit_30 ?_
      first | exact h1 (by grind) | exact h0 (by grind)
    · refine am_iconst (v := 1) dC_shapesFit_17 (by decide) ?_
      refine am_goto (tgt := 30) dC_shapesFit_18 (by decide) ?_
      refine am_iret (st := []) rfl rfl dC_shapesFit_30 ?_
      first | exact h1 (by grind) | exact h0 (by grind)
set_option maxRecDepth 100000 in
set_option maxHeartbeats 4000000 in
theorem cC_rowsOf {g : am_G} {d : Nat} {Q : Option am_V → am_H → Prop} {Y : Nat → Nat → Nat → am_V} {A P : Nat → Nat → Int32} {st mk lv : Nat → Int32} {cl pr : Nat → Nat → Int32} {us : Nat → Int32} {va si wk : Int32} {k0 p : Int32} {v : Nat} (hv : v < 28) (k : ∀ r, r = (if k0 = 7 then A v 2 else if k0 = 9 ∧ p = 0 then 1 else A v 1) → Q (some (am_I r)) (hm (xc A P st mk lv cl pr us va si wk) Y)) : am_C g mC_rowsOf d 0 0 [am_I k0, am_O 8 v, am_I p] (hm (xc A P st mk lv cl pr us va si wk) Y) Q := by
  refine am_enter (lv := [some (am_I k0), some (am_O 8 v), some (am_I p)]) rfl rfl (am_cat1 rfl) (Nat.le_of_ble_eq_true rfl) ?_
  refine am_iload_n (i := 0) dC_rowsOf_0 rfl rfl ?_
  refine am_bipush (v := 7) dC_rowsOf_1 (by decide) ?_
  refine am_icmp_ne (tgt := 11) dC_rowsOf_3 (by decide) (fun c3 => ?_) (fun c3 => ?_)
  · refine am_iload_n (i := 0) dC_rowsOf_11 rfl rfl ?_
    refine am_bipush (v := 9) dC_rowsOf_12 (by decide) ?_
    refine am_icmp_ne (tgt := 25) dC_rowsOf_14 (by decide) (fun c14 => ?_) (fun c14 => ?_)
    · refine am_aload_n (i := 1) dC_rowsOf_25 rfl rfl ?_
      refine am_getf dC_rowsOf_26 flC_83 (by first | rfl | exact sk8 (by omega) | exact sk9 (by omega) | exact sk10 (by omega) | exact sk11 (by omega)) rfl ?_
      refine am_iret (st := []) rfl rfl dC_rowsOf_29 ?_
      exact k _ (by grind)
    · refine am_iload_n (i := 2) dC_rowsOf_17 rfl rfl ?_
      refine am_if_ne (tgt := 25) dC_rowsOf_18 (by decide) (fun c18 => ?_) (fun c18 => ?_)
      · refine am_aload_n (i := 1) dC_rowsOf_25 rfl rfl ?_
        refine am_getf dC_rowsOf_26 flC_83 (by first | rfl | exact sk8 (by omega) | exact sk9 (by omega) | exact sk10 (by omega) | exact sk11 (by omega)) rfl ?_
        refine am_iret (st := []) rfl rfl dC_rowsOf_29 ?_
        exact k _ (by grind)
      · refine am_iconst (v := 1) dC_rowsOf_21 (by decide) ?_
        refine am_goto (tgt := 29) dC_rowsOf_22 (by decide) ?_
        refine am_iret (st := []) rfl rfl dC_rowsOf_29 ?_
        exact k _ (by grind)
  · refine am_aload_n (i := 1) dC_rowsOf_6 rfl rfl ?_
    refine am_getf dC_rowsOf_7 flC_89 (by first | rfl | exact sk8 (by omega) | exact sk9 (by omega) | exact sk10 (by omega) | exact sk11 (by omega)) rfl ?_
    refine am_iret (st := []) rfl rfl dC_rowsOf_10 ?_
    exact k _ (by grind)
set_option maxRecDepth 100000 in
set_option maxHeartbeats 4000000 in
theorem cC_columnsOf {g : am_G} {d : Nat} {Q : Option am_V → am_H → Prop} {Y : Nat → Nat → Nat → am_V} {A P : Nat → Nat → Int32} {st mk lv : Nat → Int32} {cl pr : Nat → Nat → Int32} {us : Nat → Int32} {va si wk : Int32} {k0 p : Int32} {v u : Nat} (hv : v < 28) (hu : u < 28) (k : ∀ r, r = (if k0 = 7 then A v 1 else if k0 = 9 ∧ p = 1 then 1 else A u 2) → Q (some (am_I r)) (hm (xc A P st mk lv cl pr us va si wk) Y)) : am_C g mC_columnsOf d 0 0 [am_I k0, am_O 8 v, am_O 8 u, am_I p] (hm (xc A P st mk lv cl pr us va si wk) Y) Q := by
  refine am_enter (lv := [some (am_I k0), some (am_O 8 v), some (am_O 8 u), some (am_I p)]) rfl rfl (am_cat1 rfl) (Nat.le_of_ble_eq_true rfl) ?_
  refine am_iload_n (i := 0) dC_columnsOf_0 rfl rfl ?_
  refine am_bipush (v := 7) dC_columnsOf_1 (by decide) ?_
  refine am_icmp_ne (tgt := 11) dC_columnsOf_3 (by decide) (fun c3 => ?_) (fun c3 => ?_)
  · refine am_iload_n (i := 0) dC_columnsOf_11 rfl rfl ?_
    refine am_bipush (v := 9) dC_columnsOf_12 (by decide) ?_
    refine am_icmp_ne (tgt := 26) dC_columnsOf_14 (by decide) (fun c14 => ?_) (fun c14 => ?_)
    · refine am_aload_n (i := 2) dC_columnsOf_26 rfl rfl ?_
      refine am_getf dC_columnsOf_27 flC_89 (by first | rfl | exact sk8 (by omega) | exact sk9 (by omega) | exact sk10 (by omega) | exact sk11 (by omega)) rfl ?_
      refine am_iret (st := []) rfl rfl dC_columnsOf_30 ?_
      exact k _ (by grind)
    · refine am_iload_n (i := 3) dC_columnsOf_17 rfl rfl ?_
      refine am_iconst (v := 1) dC_columnsOf_18 (by decide) ?_
      refine am_icmp_ne (tgt := 26) dC_columnsOf_19 (by decide) (fun c19 => ?_) (fun c19 => ?_)
      · refine am_aload_n (i := 2) dC_columnsOf_26 rfl rfl ?_
        refine am_getf dC_columnsOf_27 flC_89 (by first | rfl | exact sk8 (by omega) | exact sk9 (by omega) | exact sk10 (by omega) | exact sk11 (by omega)) rfl ?_
        refine am_iret (st := []) rfl rfl dC_columnsOf_30 ?_
        exact k _ (by grind)
      · refine am_iconst (v := 1) dC_columnsOf_22 (by decide) ?_
        refine am_goto (tgt := 30) dC_columnsOf_23 (by decide) ?_
        refine am_iret (st := []) rfl rfl dC_columnsOf_30 ?_
        exact k _ (by grind)
  · refine am_aload_n (i := 1) dC_columnsOf_6 rfl rfl ?_
    refine am_getf dC_columnsOf_7 flC_83 (by first | rfl | exact sk8 (by omega) | exact sk9 (by omega) | exact sk10 (by omega) | exact sk11 (by omega)) rfl ?_
    refine am_iret (st := []) rfl rfl dC_columnsOf_10 ?_
    exact k _ (by grind)
set_option maxRecDepth 100000 in
set_option maxHeartbeats 4000000 in
theorem cC_isValue {g : am_G} {d : Nat} {Q : Option am_V → am_H → Prop} {Y : Nat → Nat → Nat → am_V} {A P : Nat → Nat → Int32} {st mk lv : Nat → Int32} {cl pr : Nat → Nat → Int32} {us : Nat → Int32} {va si wk : Int32} {n : Nat} {x : Int32} (hva : va = nI n) (hn : n ≤ 28) (h1 : ∀ j, j < n → x = nI j → Q (some (am_I 1)) (hm (xc A P st mk lv cl pr us va si wk) Y)) (h0 : (x < 0 ∨ nI n ≤ x) → Q (some (am_I 0)) (hm (xc A P st mk lv cl pr us va si wk) Y)) : am_C g mC_isValue d 0 0 [am_O 0 0, am_I x] (hm (xc A P st mk lv cl pr us va si wk) Y) Q := by
  refine am_enter (lv := [some (am_O 0 0), some (am_I x)]) rfl rfl (am_cat1 rfl) (Nat.le_of_ble_eq_true rfl) ?_
  refine am_iload_n (i := 1) dC_isValue_0 rfl rfl ?_
  refine am_if_lt (tgt := 16) dC_isValue_1 (by decide) (fun c1 => ?_) (fun c1 => ?_)
  · refine am_iconst (v := 0) dC_isValue_16 (by decide) ?_
    refine am_iret (st := []) rfl rfl dC_isValue_17 ?_
    exact h0 (Or.inl c1)
  · refine am_iload_n (i := 1) dC_isValue_4 rfl rfl ?_
    refine am_aload_n (i := 0) dC_isValue_5 rfl rfl ?_
    refine am_getf dC_isValue_6 flC_40 (by first | rfl | exact sk8 (by omega) | exact sk9 (by omega) | exact sk10 (by omega) | exact sk11 (by omega)) rfl ?_
    refine am_icmp_ge (tgt := 16) dC_isValue_9 (by decide) (fun c9 => ?_) (fun c9 => ?_)
    · refine am_iconst (v := 0) dC_isValue_16 (by decide) ?_
      refine am_iret (st := []) rfl rfl dC_isValue_17 ?_
      exact h0 (Or.inr (hva ▸ c9))
    · refine am_iconst (v := 1) dC_isValue_12 (by decide) ?_
      refine am_goto (tgt := 17) dC_isValue_13 (by decide) ?_
      refine am_iret (st := []) rfl rfl dC_isValue_17 ?_
      rcases pk_ix x (n := n) (by omega) with q | q | ⟨j, hj, ej⟩
      · exact absurd q c1
      · exact absurd (hva ▸ q) c9
      · exact h1 j hj ej
set_option maxRecDepth 100000 in
set_option maxHeartbeats 4000000 in
theorem cC_makeLive {g : am_G} {d : Nat} {Q : Option am_V → am_H → Prop} {Y : Nat → Nat → Nat → am_V} {A P : Nat → Nat → Int32} {st mk lv : Nat → Int32} {cl pr : Nat → Nat → Int32} {us : Nat → Int32} {va si wk : Int32} {v : Nat} {x : Int32} (hv : v ≤ 28) (hx : q_arg x v) (k : ∀ l, (l = if x = -1 then lv else upd lv (ix x) 1) → Q none (hm (xc A P st mk l cl pr us va si wk) Y)) : am_C g mC_makeLive d 0 0 [am_O 0 0, am_I x] (hm (xc A P st mk lv cl pr us va si wk) Y) Q := by
  refine am_enter (lv := [some (am_O 0 0), some (am_I x)]) rfl rfl (am_cat1 rfl) (Nat.le_of_ble_eq_true rfl) ?_
  refine am_iload_n (i := 1) dC_makeLive_0 rfl rfl ?_
  refine am_iconst (v := (-1)) dC_makeLive_1 (by decide) ?_
  refine am_icmp_eq (tgt := 12) dC_makeLive_2 (by decide) (fun c2 => ?_) (fun c2 => ?_)
  · refine am_vret (st := []) rfl dC_makeLive_12 ?_
    exact k _ (by rw [if_pos c2])
  · obtain ⟨hj, ej⟩ := hx.ix c2 hv
    refine am_aload_n (i := 0) dC_makeLive_5 rfl rfl ?_
    refine am_getf dC_makeLive_6 flC_26 (by first | rfl | exact sk8 (by omega) | exact sk9 (by omega) | exact sk10 (by omega) | exact sk11 (by omega)) rfl ?_
    refine am_iload_n (i := 1) dC_makeLive_9 rfl rfl ?_
    refine am_iconst (v := 1) dC_makeLive_10 (by decide) ?_
    refine am_zast' dC_makeLive_11 (by first | rfl | exact sk8 (by omega) | exact sk9 (by omega) | exact sk10 (by omega) | exact sk11 (by omega)) ej (by first | omega | assumption | decide) (by decide) (by decide) rfl (by first | exact wx_st | exact wx_mk | exact wx_lv | exact wx_us | exact wx_A | exact wx_P | exact wx_cl | exact wx_pr | exact wx_va | exact wx_si | exact wx_wk) ?_
    refine am_vret (st := []) rfl dC_makeLive_12 ?_
    exact k _ (by rw [if_neg c2])
set_option maxRecDepth 100000 in
set_option maxHeartbeats 4000000 in
theorem cC_isSplat {g : am_G} {d : Nat} {Q : Option am_V → am_H → Prop} {Y : Nat → Nat → Nat → am_V} {A P : Nat → Nat → Int32} {st mk lv : Nat → Int32} {cl pr : Nat → Nat → Int32} {us : Nat → Int32} {va si wk : Int32} {a : Nat} {x z : Int32} (ha : a < 28) (hx : x = nI a) (h1 : (q_spl P x z) → Q (some (am_I 1)) (hm (xc A P st mk lv cl pr us va si wk) Y)) (h0 : ¬ (q_spl P x z) → Q (some (am_I 0)) (hm (xc A P st mk lv cl pr us va si wk) Y)) : am_C g mC_isSplat (d + 1) 0 0 [am_O 0 0, am_I x, am_I z] (hm (xc A P st mk lv cl pr us va si wk) Y) Q := by
  refine am_enter (lv := [some (am_O 0 0), some (am_I x), some (am_I z)]) rfl rfl (am_cat1 rfl) (Nat.le_of_ble_eq_true rfl) ?_
  refine am_aload_n (i := 0) dC_isSplat_0 rfl rfl ?_
  refine am_getf dC_isSplat_1 flC_15 (by first | rfl | exact sk8 (by omega) | exact sk9 (by omega) | exact sk10 (by omega) | exact sk11 (by omega)) rfl ?_
  refine am_iload_n (i := 1) dC_isSplat_4 rfl rfl ?_
  refine am_aald dC_isSplat_5 (by first | rfl | exact sk8 (by omega) | exact sk9 (by omega) | exact sk10 (by omega) | exact sk11 (by omega)) hx (by first | omega | assumption | decide) (by decide) (by decide) rfl rfl ?_
  refine am_iload_n (i := 2) dC_isSplat_6 rfl rfl ?_
  refine am_callV (ac' := 0) (as' := 0) (xs := [_]) dC_isSplat_7 lkC_190 (by first | rfl | exact sk8 (by omega) | exact sk9 (by omega) | exact sk10 (by omega) | exact sk11 (by omega)) rfl rfl rfl rfl (Nat.le_of_ble_eq_true rfl) rfl rfl (cO_isSplatOf ha (fun cs => ?_) (fun cs => ?_))
  · refine am_iret (st := []) rfl rfl dC_isSplat_10 ?_
    first | exact h1 (by unfold q_spl; rw [hx, ix_nI (by omega)]; exact cs) | exact h0 (by unfold q_spl; rw [hx, ix_nI (by omega)]; exact cs)
  · refine am_iret (st := []) rfl rfl dC_isSplat_10 ?_
    first | exact h1 (by unfold q_spl; rw [hx, ix_nI (by omega)]; exact cs) | exact h0 (by unfold q_spl; rw [hx, ix_nI (by omega)]; exact cs)
set_option maxRecDepth 100000 in
set_option maxHeartbeats 4000000 in
theorem cC_hasOnlySplats {g : am_G} {d : Nat} {Q : Option am_V → am_H → Prop} {Y : Nat → Nat → Nat → am_V} {A P : Nat → Nat → Int32} {st mk lv : Nat → Int32} {cl pr : Nat → Nat → Int32} {us : Nat → Int32} {va si wk : Int32} {v : Nat} (hv : v < 28) (h3 : q_arg (P v 3) v) (h4 : q_arg (P v 4) v) (h1 : (q_only P v) → Q (some (am_I 1)) (hm (xc A P st mk lv cl pr us va si wk) Y)) (h0 : ¬ (q_only P v) → Q (some (am_I 0)) (hm (xc A P st mk lv cl pr us va si wk) Y)) : am_C g mC_hasOnlySplats d 0 0 [am_O 0 0, am_O 9 v] (hm (xc A P st mk lv cl pr us va si wk) Y) Q := by
  refine am_enter (lv := [some (am_O 0 0), some (am_O 9 v)]) rfl rfl (am_cat1 rfl) (Nat.le_of_ble_eq_true rfl) ?_
  refine am_aload_n (i := 1) dC_hasOnlySplats_0 rfl rfl ?_
  refine am_getf dC_hasOnlySplats_1 flC_132 (by first | rfl | exact sk8 (by omega) | exact sk9 (by omega) | exact sk10 (by omega) | exact sk11 (by omega)) rfl ?_
  refine am_iconst (v := (-1)) dC_hasOnlySplats_4 (by decide) ?_
  refine am_icmp_eq (tgt := 24) dC_hasOnlySplats_5 (by decide) (fun c5 => ?_) (fun c5 => ?_)
  · refine am_iconst (v := 0) dC_hasOnlySplats_24 (by decide) ?_
    refine am_iret (st := []) rfl rfl dC_hasOnlySplats_25 ?_
    unfold q_only at h1 h0
    first | exact h1 (by grind) | exact h0 (by grind)
  · obtain ⟨g3, e3⟩ := h3.ix c5 (by omega)
    refine am_aload_n (i := 0) dC_hasOnlySplats_8 rfl rfl ?_
    refine am_getf dC_hasOnlySplats_9 flC_15 (by first | rfl | exact sk8 (by omega) | exact sk9 (by omega) | exact sk10 (by omega) | exact sk11 (by omega)) rfl ?_
    refine am_aload_n (i := 1) dC_hasOnlySplats_12 rfl rfl ?_
    refine am_getf dC_hasOnlySplats_13 flC_132 (by first | rfl | exact sk8 (by omega) | exact sk9 (by omega) | exact sk10 (by omega) | exact sk11 (by omega)) rfl ?_
    refine am_aald dC_hasOnlySplats_16 (by first | rfl | exact sk8 (by omega) | exact sk9 (by omega) | exact sk10 (by omega) | exact sk11 (by omega)) e3 (by first | omega | assumption | decide) (by decide) (by decide) rfl rfl ?_
    refine am_getf dC_hasOnlySplats_17 flC_129 (by first | rfl | exact sk8 (by omega) | exact sk9 (by omega) | exact sk10 (by omega) | exact sk11 (by omega)) rfl ?_
    refine am_iconst (v := 1) dC_hasOnlySplats_20 (by decide) ?_
    refine am_icmp_eq (tgt := 26) dC_hasOnlySplats_21 (by decide) (fun c21 => ?_) (fun c21 => ?_)
    · refine am_aload_n (i := 1) dC_hasOnlySplats_26 rfl rfl ?_
      refine am_getf dC_hasOnlySplats_27 flC_135 (by first | rfl | exact sk8 (by omega) | exact sk9 (by omega) | exact sk10 (by omega) | exact sk11 (by omega)) rfl ?_
      refine am_iconst (v := (-1)) dC_hasOnlySplats_30 (by decide) ?_
      refine am_icmp_eq (tgt := 50) dC_hasOnlySplats_31 (by decide) (fun c31 => ?_) (fun c31 => ?_)
      · refine am_iconst (v := 1) dC_hasOnlySplats_50 (by decide) ?_
        refine am_goto (tgt := 55) dC_hasOnlySplats_51 (by decide) ?_
        refine am_iret (st := []) rfl rfl dC_hasOnlySplats_55 ?_
        unfold q_only at h1 h0
        first | exact h1 (by grind) | exact h0 (by grind)
      · obtain ⟨g4, e4⟩ := h4.ix c31 (by omega)
        refine am_aload_n (i := 0) dC_hasOnlySplats_34 rfl rfl ?_
        refine am_getf dC_hasOnlySplats_35 flC_15 (by first | rfl | exact sk8 (by omega) | exact sk9 (by omega) | exact sk10 (by omega) | exact sk11 (by omega)) rfl ?_
        refine am_aload_n (i := 1) dC_hasOnlySplats_38 rfl rfl ?_
        refine am_getf dC_hasOnlySplats_39 flC_135 (by first | rfl | exact sk8 (by omega) | exact sk9 (by omega) | exact sk10 (by omega) | exact sk11 (by omega)) rfl ?_
        refine am_aald dC_hasOnlySplats_42 (by first | rfl | exact sk8 (by omega) | exact sk9 (by omega) | exact sk10 (by omega) | exact sk11 (by omega)) e4 (by first | omega | assumption | decide) (by decide) (by decide) rfl rfl ?_
        refine am_getf dC_hasOnlySplats_43 flC_129 (by first | rfl | exact sk8 (by omega) | exact sk9 (by omega) | exact sk10 (by omega) | exact sk11 (by omega)) rfl ?_
        refine am_iconst (v := 1) dC_hasOnlySplats_46 (by decide) ?_
        refine am_icmp_ne (tgt := 54) dC_hasOnlySplats_47 (by decide) (fun c47 => ?_) (fun c47 => ?_)
        · refine am_iconst (v := 0) dC_hasOnlySplats_54 (by decide) ?_
          refine am_iret (st := []) rfl rfl dC_hasOnlySplats_55 ?_
          unfold q_only at h1 h0
          first | exact h1 (by grind) | exact h0 (by grind)
        · refine am_iconst (v := 1) dC_hasOnlySplats_50 (by decide) ?_
          refine am_goto (tgt := 55) dC_hasOnlySplats_51 (by decide) ?_
          refine am_iret (st := []) rfl rfl dC_hasOnlySplats_55 ?_
          unfold q_only at h1 h0
          first | exact h1 (by grind) | exact h0 (by grind)
    · refine am_iconst (v := 0) dC_hasOnlySplats_24 (by decide) ?_
      refine am_iret (st := []) rfl rfl dC_hasOnlySplats_25 ?_
      unfold q_only at h1 h0
      first | exact h1 (by grind) | exact h0 (by grind)
set_option maxRecDepth 100000 in
set_option maxHeartbeats 4000000 in
theorem cC_foldedCell {g : am_G} {d : Nat} {Q : Option am_V → am_H → Prop} {Y : Nat → Nat → Nat → am_V} {A P : Nat → Nat → Int32} {st mk lv : Nat → Int32} {cl pr : Nat → Nat → Int32} {us : Nat → Int32} {va si wk : Int32} {v : Nat} (hv : v < 28) (h3 : q_arg (P v 3) v) (h4 : q_arg (P v 4) v) (hq : ¬ P v 3 = -1) (k : ∀ r, r = q_foldV P v → Q (some (am_I r)) (hm (xc A P st mk lv cl pr us va si wk) Y)) : am_C g mC_foldedCell (d + 1) 0 0 [am_O 0 0, am_O 9 v] (hm (xc A P st mk lv cl pr us va si wk) Y) Q := by
  refine am_enter (lv := [some (am_O 0 0), some (am_O 9 v), none, none, none]) rfl rfl (am_cat1 rfl) (Nat.le_of_ble_eq_true rfl) ?_
  obtain ⟨g3, e3⟩ := h3.ix hq (by omega)
  refine am_aload_n (i := 0) dC_foldedCell_0 rfl rfl ?_
  refine am_getf dC_foldedCell_1 flC_15 (by first | rfl | exact sk8 (by omega) | exact sk9 (by omega) | exact sk10 (by omega) | exact sk11 (by omega)) rfl ?_
  refine am_aload_n (i := 1) dC_foldedCell_4 rfl rfl ?_
  refine am_getf dC_foldedCell_5 flC_132 (by first | rfl | exact sk8 (by omega) | exact sk9 (by omega) | exact sk10 (by omega) | exact sk11 (by omega)) rfl ?_
  refine am_aald dC_foldedCell_8 (by first | rfl | exact sk8 (by omega) | exact sk9 (by omega) | exact sk10 (by omega) | exact sk11 (by omega)) e3 (by first | omega | assumption | decide) (by decide) (by decide) rfl rfl ?_
  refine am_astore_n (i := 2) dC_foldedCell_9 rfl (by decide) ?_
  refine am_aload_n (i := 2) dC_foldedCell_10 rfl rfl ?_
  refine am_getf dC_foldedCell_11 flC_138 (by first | rfl | exact sk8 (by omega) | exact sk9 (by omega) | exact sk10 (by omega) | exact sk11 (by omega)) rfl ?_
  refine am_istore_n (i := 3) dC_foldedCell_14 rfl (by decide) ?_
  refine am_aload_n (i := 1) dC_foldedCell_15 rfl rfl ?_
  refine am_getf dC_foldedCell_16 flC_135 (by first | rfl | exact sk8 (by omega) | exact sk9 (by omega) | exact sk10 (by omega) | exact sk11 (by omega)) rfl ?_
  refine am_iconst (v := (-1)) dC_foldedCell_19 (by decide) ?_
  refine am_icmp_ne (tgt := 27) dC_foldedCell_20 (by decide) (fun c20 => ?_) (fun c20 => ?_)
  · obtain ⟨g4, e4⟩ := h4.ix c20 (by omega)
    refine am_aload_n (i := 0) dC_foldedCell_27 rfl rfl ?_
    refine am_getf dC_foldedCell_28 flC_15 (by first | rfl | exact sk8 (by omega) | exact sk9 (by omega) | exact sk10 (by omega) | exact sk11 (by omega)) rfl ?_
    refine am_aload_n (i := 1) dC_foldedCell_31 rfl rfl ?_
    refine am_getf dC_foldedCell_32 flC_135 (by first | rfl | exact sk8 (by omega) | exact sk9 (by omega) | exact sk10 (by omega) | exact sk11 (by omega)) rfl ?_
    refine am_aald dC_foldedCell_35 (by first | rfl | exact sk8 (by omega) | exact sk9 (by omega) | exact sk10 (by omega) | exact sk11 (by omega)) e4 (by first | omega | assumption | decide) (by decide) (by decide) rfl rfl ?_
    refine am_getf dC_foldedCell_36 flC_138 (by first | rfl | exact sk8 (by omega) | exact sk9 (by omega) | exact sk10 (by omega) | exact sk11 (by omega)) rfl ?_
    refine am_istore (i := 4) dC_foldedCell_39 (by decide) ?_
    refine am_aload_n (i := 1) dC_foldedCell_41 rfl rfl ?_
    refine am_getf dC_foldedCell_42 flC_129 (by first | rfl | exact sk8 (by omega) | exact sk9 (by omega) | exact sk10 (by omega) | exact sk11 (by omega)) rfl ?_
    rcases sw_3_9 (P v 0) with s45 | s45 | s45 | s45 | s45 | s45 | s45 | s45
    · refine am_tableIn (off := 43) (tgt := 88) dC_foldedCell_45 (by rw [s45]; decide) (by rw [s45]; decide) (by rw [s45]; rfl) (by decide) ?_
      refine am_iload_n (i := 3) dC_foldedCell_88 rfl rfl ?_
      refine am_iload (i := 4) dC_foldedCell_89 rfl ?_
      refine am_iadd dC_foldedCell_91 ?_
      refine am_iret (st := []) rfl rfl dC_foldedCell_92 ?_
      exact k _ (by unfold q_foldV q_fold; grind)
    · refine am_tableIn (off := 48) (tgt := 93) dC_foldedCell_45 (by rw [s45]; decide) (by rw [s45]; decide) (by rw [s45]; rfl) (by decide) ?_
      refine am_iload_n (i := 3) dC_foldedCell_93 rfl rfl ?_
      refine am_iload (i := 4) dC_foldedCell_94 rfl ?_
      refine am_imul dC_foldedCell_96 ?_
      refine am_iret (st := []) rfl rfl dC_foldedCell_97 ?_
      exact k _ (by unfold q_foldV q_fold; grind)
    · refine am_tableIn (off := 53) (tgt := 98) dC_foldedCell_45 (by rw [s45]; decide) (by rw [s45]; decide) (by rw [s45]; rfl) (by decide) ?_
      refine am_iload_n (i := 3) dC_foldedCell_98 rfl rfl ?_
      refine am_iload (i := 4) dC_foldedCell_99 rfl ?_
      refine am_mmax dC_foldedCell_101 mxC_193 mx_st mx_in mx_cd (by omega) (Nat.le_of_ble_eq_true rfl) ?_
      refine am_iret (st := []) rfl rfl dC_foldedCell_104 ?_
      exact k _ (by unfold q_foldV q_fold; grind)
    · refine am_tableIn (off := 60) (tgt := 105) dC_foldedCell_45 (by rw [s45]; decide) (by rw [s45]; decide) (by rw [s45]; rfl) (by decide) ?_
      refine am_iload_n (i := 3) dC_foldedCell_105 rfl rfl ?_
      refine am_ineg dC_foldedCell_106 ?_
      refine am_iret (st := []) rfl rfl dC_foldedCell_107 ?_
      exact k _ (by unfold q_foldV q_fold; grind)
    · refine am_tableIn (off := 94) (tgt := 139) dC_foldedCell_45 (by rw [s45]; decide) (by rw [s45]; decide) (by rw [s45]; rfl) (by decide) ?_
      refine am_iload_n (i := 3) dC_foldedCell_139 rfl rfl ?_
      refine am_iret (st := []) rfl rfl dC_foldedCell_140 ?_
      exact k _ (by unfold q_foldV q_fold; grind)
    · refine am_tableIn (off := 63) (tgt := 108) dC_foldedCell_45 (by rw [s45]; decide) (by rw [s45]; decide) (by rw [s45]; rfl) (by decide) ?_
      refine am_iload_n (i := 3) dC_foldedCell_108 rfl rfl ?_
      refine am_iload (i := 4) dC_foldedCell_109 rfl ?_
      refine am_imul dC_foldedCell_111 ?_
      refine am_aload_n (i := 2) dC_foldedCell_112 rfl rfl ?_
      refine am_getf dC_foldedCell_113 flC_89 (by first | rfl | exact sk8 (by omega) | exact sk9 (by omega) | exact sk10 (by omega) | exact sk11 (by omega)) rfl ?_
      refine am_imul dC_foldedCell_116 ?_
      refine am_iret (st := []) rfl rfl dC_foldedCell_117 ?_
      exact k _ (by unfold q_foldV q_fold; grind)
    · refine am_tableIn (off := 73) (tgt := 118) dC_foldedCell_45 (by rw [s45]; decide) (by rw [s45]; decide) (by rw [s45]; rfl) (by decide) ?_
      refine am_iload_n (i := 3) dC_foldedCell_118 rfl rfl ?_
      refine am_aload_n (i := 1) dC_foldedCell_119 rfl rfl ?_
      refine am_getf dC_foldedCell_120 flC_138 (by first | rfl | exact sk8 (by omega) | exact sk9 (by omega) | exact sk10 (by omega) | exact sk11 (by omega)) rfl ?_
      refine am_if_ne (tgt := 133) dC_foldedCell_123 (by decide) (fun c123 => ?_) (fun c123 => ?_)
      · refine am_aload_n (i := 2) dC_foldedCell_133 rfl rfl ?_
        refine am_getf dC_foldedCell_134 flC_89 (by first | rfl | exact sk8 (by omega) | exact sk9 (by omega) | exact sk10 (by omega) | exact sk11 (by omega)) rfl ?_
        refine am_imul dC_foldedCell_137 ?_
        refine am_iret (st := []) rfl rfl dC_foldedCell_138 ?_
        exact k _ (by unfold q_foldV q_fold; grind)
      · refine am_aload_n (i := 2) dC_foldedCell_126 rfl rfl ?_
        refine am_getf dC_foldedCell_127 flC_83 (by first | rfl | exact sk8 (by omega) | exact sk9 (by omega) | exact sk10 (by omega) | exact sk11 (by omega)) rfl ?_
        refine am_goto (tgt := 137) dC_foldedCell_130 (by decide) ?_
        refine am_imul dC_foldedCell_137 ?_
        refine am_iret (st := []) rfl rfl dC_foldedCell_138 ?_
        exact k _ (by unfold q_foldV q_fold; grind)
    · refine am_tableOut (tgt := 139) dC_foldedCell_45 s45 (by decide) ?_
      refine am_iload_n (i := 3) dC_foldedCell_139 rfl rfl ?_
      refine am_iret (st := []) rfl rfl dC_foldedCell_140 ?_
      exact k _ (by
        unfold q_foldV
        rw [q_foldD s45])
  · refine am_iconst (v := 0) dC_foldedCell_23 (by decide) ?_
    refine am_goto (tgt := 39) dC_foldedCell_24 (by decide) ?_
    refine am_istore (i := 4) dC_foldedCell_39 (by decide) ?_
    refine am_aload_n (i := 1) dC_foldedCell_41 rfl rfl ?_
    refine am_getf dC_foldedCell_42 flC_129 (by first | rfl | exact sk8 (by omega) | exact sk9 (by omega) | exact sk10 (by omega) | exact sk11 (by omega)) rfl ?_
    rcases sw_3_9 (P v 0) with s45 | s45 | s45 | s45 | s45 | s45 | s45 | s45
    · refine am_tableIn (off := 43) (tgt := 88) dC_foldedCell_45 (by rw [s45]; decide) (by rw [s45]; decide) (by rw [s45]; rfl) (by decide) ?_
      refine am_iload_n (i := 3) dC_foldedCell_88 rfl rfl ?_
      refine am_iload (i := 4) dC_foldedCell_89 rfl ?_
      refine am_iadd dC_foldedCell_91 ?_
      refine am_iret (st := []) rfl rfl dC_foldedCell_92 ?_
      exact k _ (by unfold q_foldV q_fold; grind)
    · refine am_tableIn (off := 48) (tgt := 93) dC_foldedCell_45 (by rw [s45]; decide) (by rw [s45]; decide) (by rw [s45]; rfl) (by decide) ?_
      refine am_iload_n (i := 3) dC_foldedCell_93 rfl rfl ?_
      refine am_iload (i := 4) dC_foldedCell_94 rfl ?_
      refine am_imul dC_foldedCell_96 ?_
      refine am_iret (st := []) rfl rfl dC_foldedCell_97 ?_
      exact k _ (by unfold q_foldV q_fold; grind)
    · refine am_tableIn (off := 53) (tgt := 98) dC_foldedCell_45 (by rw [s45]; decide) (by rw [s45]; decide) (by rw [s45]; rfl) (by decide) ?_
      refine am_iload_n (i := 3) dC_foldedCell_98 rfl rfl ?_
      refine am_iload (i := 4) dC_foldedCell_99 rfl ?_
      refine am_mmax dC_foldedCell_101 mxC_193 mx_st mx_in mx_cd (by omega) (Nat.le_of_ble_eq_true rfl) ?_
      refine am_iret (st := []) rfl rfl dC_foldedCell_104 ?_
      exact k _ (by unfold q_foldV q_fold; grind)
    · refine am_tableIn (off := 60) (tgt := 105) dC_foldedCell_45 (by rw [s45]; decide) (by rw [s45]; decide) (by rw [s45]; rfl) (by decide) ?_
      refine am_iload_n (i := 3) dC_foldedCell_105 rfl rfl ?_
      refine am_ineg dC_foldedCell_106 ?_
      refine am_iret (st := []) rfl rfl dC_foldedCell_107 ?_
      exact k _ (by unfold q_foldV q_fold; grind)
    · refine am_tableIn (off := 94) (tgt := 139) dC_foldedCell_45 (by rw [s45]; decide) (by rw [s45]; decide) (by rw [s45]; rfl) (by decide) ?_
      refine am_iload_n (i := 3) dC_foldedCell_139 rfl rfl ?_
      refine am_iret (st := []) rfl rfl dC_foldedCell_140 ?_
      exact k _ (by unfold q_foldV q_fold; grind)
    · refine am_tableIn (off := 63) (tgt := 108) dC_foldedCell_45 (by rw [s45]; decide) (by rw [s45]; decide) (by rw [s45]; rfl) (by decide) ?_
      refine am_iload_n (i := 3) dC_foldedCell_108 rfl rfl ?_
      refine am_iload (i := 4) dC_foldedCell_109 rfl ?_
      refine am_imul dC_foldedCell_111 ?_
      refine am_aload_n (i := 2) dC_foldedCell_112 rfl rfl ?_
      refine am_getf dC_foldedCell_113 flC_89 (by first | rfl | exact sk8 (by omega) | exact sk9 (by omega) | exact sk10 (by omega) | exact sk11 (by omega)) rfl ?_
      refine am_imul dC_foldedCell_116 ?_
      refine am_iret (st := []) rfl rfl dC_foldedCell_117 ?_
      exact k _ (by unfold q_foldV q_fold; grind)
    · refine am_tableIn (off := 73) (tgt := 118) dC_foldedCell_45 (by rw [s45]; decide) (by rw [s45]; decide) (by rw [s45]; rfl) (by decide) ?_
      refine am_iload_n (i := 3) dC_foldedCell_118 rfl rfl ?_
      refine am_aload_n (i := 1) dC_foldedCell_119 rfl rfl ?_
      refine am_getf dC_foldedCell_120 flC_138 (by first | rfl | exact sk8 (by omega) | exact sk9 (by omega) | exact sk10 (by omega) | exact sk11 (by omega)) rfl ?_
      refine am_if_ne (tgt := 133) dC_foldedCell_123 (by decide) (fun c123 => ?_) (fun c123 => ?_)
      · refine am_aload_n (i := 2) dC_foldedCell_133 rfl rfl ?_
        refine am_getf dC_foldedCell_134 flC_89 (by first | rfl | exact sk8 (by omega) | exact sk9 (by omega) | exact sk10 (by omega) | exact sk11 (by omega)) rfl ?_
        refine am_imul dC_foldedCell_137 ?_
        refine am_iret (st := []) rfl rfl dC_foldedCell_138 ?_
        exact k _ (by unfold q_foldV q_fold; grind)
      · refine am_aload_n (i := 2) dC_foldedCell_126 rfl rfl ?_
        refine am_getf dC_foldedCell_127 flC_83 (by first | rfl | exact sk8 (by omega) | exact sk9 (by omega) | exact sk10 (by omega) | exact sk11 (by omega)) rfl ?_
        refine am_goto (tgt := 137) dC_foldedCell_130 (by decide) ?_
        refine am_imul dC_foldedCell_137 ?_
        refine am_iret (st := []) rfl rfl dC_foldedCell_138 ?_
        exact k _ (by unfold q_foldV q_fold; grind)
    · refine am_tableOut (tgt := 139) dC_foldedCell_45 s45 (by decide) ?_
      refine am_iload_n (i := 3) dC_foldedCell_139 rfl rfl ?_
      refine am_iret (st := []) rfl rfl dC_foldedCell_140 ?_
      exact k _ (by
        unfold q_foldV
        rw [q_foldD s45])
set_option maxRecDepth 100000 in
set_option maxHeartbeats 4000000 in
theorem cC_twiceInner {g : am_G} {d : Nat} {Q : Option am_V → am_H → Prop} {Y : Nat → Nat → Nat → am_V} {A P : Nat → Nat → Int32} {st mk lv : Nat → Int32} {cl pr : Nat → Nat → Int32} {us : Nat → Int32} {va si wk : Int32} {v : Nat} (hv : v < 28) (h3 : q_arg (P v 3) v) (h4 : q_arg (P v 4) v) (hq : ¬ P v 3 = -1 ∨ ¬ (P v 0 = 6 ∨ P v 0 = 7 ∨ P v 0 = 11)) (k : ∀ r, r = (if P v 0 = 6 ∨ P v 0 = 7 ∨ P v 0 = 11 then (if P (ix (P v 3)) 0 = P v 0 then P (ix (P v 3)) 3 else -1) else -1) → Q (some (am_I r)) (hm (xc A P st mk lv cl pr us va si wk) Y)) : am_C g mC_twiceInner d 0 0 [am_O 0 0, am_O 9 v] (hm (xc A P st mk lv cl pr us va si wk) Y) Q := by
  refine am_enter (lv := [some (am_O 0 0), some (am_O 9 v), none]) rfl rfl (am_cat1 rfl) (Nat.le_of_ble_eq_true rfl) ?_
  refine am_aload_n (i := 1) dC_twiceInner_0 rfl rfl ?_
  refine am_getf dC_twiceInner_1 flC_129 (by first | rfl | exact sk8 (by omega) | exact sk9 (by omega) | exact sk10 (by omega) | exact sk11 (by omega)) rfl ?_
  refine am_bipush (v := 6) dC_twiceInner_4 (by decide) ?_
  refine am_icmp_eq (tgt := 29) dC_twiceInner_6 (by decide) (fun c6 => ?_) (fun c6 => ?_)
  · obtain ⟨g3, e3⟩ := h3.ix (by grind) (by omega)
    refine am_aload_n (i := 0) dC_twiceInner_29 rfl rfl ?_
    refine am_getf dC_twiceInner_30 flC_15 (by first | rfl | exact sk8 (by omega) | exact sk9 (by omega) | exact sk10 (by omega) | exact sk11 (by omega)) rfl ?_
    refine am_aload_n (i := 1) dC_twiceInner_33 rfl rfl ?_
    refine am_getf dC_twiceInner_34 flC_132 (by first | rfl | exact sk8 (by omega) | exact sk9 (by omega) | exact sk10 (by omega) | exact sk11 (by omega)) rfl ?_
    refine am_aald dC_twiceInner_37 (by first | rfl | exact sk8 (by omega) | exact sk9 (by omega) | exact sk10 (by omega) | exact sk11 (by omega)) e3 (by first | omega | assumption | decide) (by decide) (by decide) rfl rfl ?_
    refine am_astore_n (i := 2) dC_twiceInner_38 rfl (by decide) ?_
    refine am_aload_n (i := 2) dC_twiceInner_39 rfl rfl ?_
    refine am_getf dC_twiceInner_40 flC_129 (by first | rfl | exact sk8 (by omega) | exact sk9 (by omega) | exact sk10 (by omega) | exact sk11 (by omega)) rfl ?_
    refine am_aload_n (i := 1) dC_twiceInner_43 rfl rfl ?_
    refine am_getf dC_twiceInner_44 flC_129 (by first | rfl | exact sk8 (by omega) | exact sk9 (by omega) | exact sk10 (by omega) | exact sk11 (by omega)) rfl ?_
    refine am_icmp_ne (tgt := 57) dC_twiceInner_47 (by decide) (fun c47 => ?_) (fun c47 => ?_)
    · refine am_iconst (v := (-1)) dC_twiceInner_57 (by decide) ?_
      refine am_iret (st := []) rfl rfl dC_twiceInner_58 ?_
      exact k _ (by grind)
    · refine am_aload_n (i := 2) dC_twiceInner_50 rfl rfl ?_
      refine am_getf dC_twiceInner_51 flC_132 (by first | rfl | exact sk8 (by omega) | exact sk9 (by omega) | exact sk10 (by omega) | exact sk11 (by omega)) rfl ?_
      refine am_goto (tgt := 58) dC_twiceInner_54 (by decide) ?_
      refine am_iret (st := []) rfl rfl dC_twiceInner_58 ?_
      exact k _ (by grind)
  · refine am_aload_n (i := 1) dC_twiceInner_9 rfl rfl ?_
    refine am_getf dC_twiceInner_10 flC_129 (by first | rfl | exact sk8 (by omega) | exact sk9 (by omega) | exact sk10 (by omega) | exact sk11 (by omega)) rfl ?_
    refine am_bipush (v := 7) dC_twiceInner_13 (by decide) ?_
    refine am_icmp_eq (tgt := 29) dC_twiceInner_15 (by decide) (fun c15 => ?_) (fun c15 => ?_)
    · obtain ⟨g3, e3⟩ := h3.ix (by grind) (by omega)
      refine am_aload_n (i := 0) dC_twiceInner_29 rfl rfl ?_
      refine am_getf dC_twiceInner_30 flC_15 (by first | rfl | exact sk8 (by omega) | exact sk9 (by omega) | exact sk10 (by omega) | exact sk11 (by omega)) rfl ?_
      refine am_aload_n (i := 1) dC_twiceInner_33 rfl rfl ?_
      refine am_getf dC_twiceInner_34 flC_132 (by first | rfl | exact sk8 (by omega) | exact sk9 (by omega) | exact sk10 (by omega) | exact sk11 (by omega)) rfl ?_
      refine am_aald dC_twiceInner_37 (by first | rfl | exact sk8 (by omega) | exact sk9 (by omega) | exact sk10 (by omega) | exact sk11 (by omega)) e3 (by first | omega | assumption | decide) (by decide) (by decide) rfl rfl ?_
      refine am_astore_n (i := 2) dC_twiceInner_38 rfl (by decide) ?_
      refine am_aload_n (i := 2) dC_twiceInner_39 rfl rfl ?_
      refine am_getf dC_twiceInner_40 flC_129 (by first | rfl | exact sk8 (by omega) | exact sk9 (by omega) | exact sk10 (by omega) | exact sk11 (by omega)) rfl ?_
      refine am_aload_n (i := 1) dC_twiceInner_43 rfl rfl ?_
      refine am_getf dC_twiceInner_44 flC_129 (by first | rfl | exact sk8 (by omega) | exact sk9 (by omega) | exact sk10 (by omega) | exact sk11 (by omega)) rfl ?_
      refine am_icmp_ne (tgt := 57) dC_twiceInner_47 (by decide) (fun c47 => ?_) (fun c47 => ?_)
      · refine am_iconst (v := (-1)) dC_twiceInner_57 (by decide) ?_
        refine am_iret (st := []) rfl rfl dC_twiceInner_58 ?_
        exact k _ (by grind)
      · refine am_aload_n (i := 2) dC_twiceInner_50 rfl rfl ?_
        refine am_getf dC_twiceInner_51 flC_132 (by first | rfl | exact sk8 (by omega) | exact sk9 (by omega) | exact sk10 (by omega) | exact sk11 (by omega)) rfl ?_
        refine am_goto (tgt := 58) dC_twiceInner_54 (by decide) ?_
        refine am_iret (st := []) rfl rfl dC_twiceInner_58 ?_
        exact k _ (by grind)
    · refine am_aload_n (i := 1) dC_twiceInner_18 rfl rfl ?_
      refine am_getf dC_twiceInner_19 flC_129 (by first | rfl | exact sk8 (by omega) | exact sk9 (by omega) | exact sk10 (by omega) | exact sk11 (by omega)) rfl ?_
      refine am_bipush (v := 11) dC_twiceInner_22 (by decide) ?_
      refine am_icmp_eq (tgt := 29) dC_twiceInner_24 (by decide) (fun c24 => ?_) (fun c24 => ?_)
      · obtain ⟨g3, e3⟩ := h3.ix (by grind) (by omega)
        refine am_aload_n (i := 0) dC_twiceInner_29 rfl rfl ?_
        refine am_getf dC_twiceInner_30 flC_15 (by first | rfl | exact sk8 (by omega) | exact sk9 (by omega) | exact sk10 (by omega) | exact sk11 (by omega)) rfl ?_
        refine am_aload_n (i := 1) dC_twiceInner_33 rfl rfl ?_
        refine am_getf dC_twiceInner_34 flC_132 (by first | rfl | exact sk8 (by omega) | exact sk9 (by omega) | exact sk10 (by omega) | exact sk11 (by omega)) rfl ?_
        refine am_aald dC_twiceInner_37 (by first | rfl | exact sk8 (by omega) | exact sk9 (by omega) | exact sk10 (by omega) | exact sk11 (by omega)) e3 (by first | omega | assumption | decide) (by decide) (by decide) rfl rfl ?_
        refine am_astore_n (i := 2) dC_twiceInner_38 rfl (by decide) ?_
        refine am_aload_n (i := 2) dC_twiceInner_39 rfl rfl ?_
        refine am_getf dC_twiceInner_40 flC_129 (by first | rfl | exact sk8 (by omega) | exact sk9 (by omega) | exact sk10 (by omega) | exact sk11 (by omega)) rfl ?_
        refine am_aload_n (i := 1) dC_twiceInner_43 rfl rfl ?_
        refine am_getf dC_twiceInner_44 flC_129 (by first | rfl | exact sk8 (by omega) | exact sk9 (by omega) | exact sk10 (by omega) | exact sk11 (by omega)) rfl ?_
        refine am_icmp_ne (tgt := 57) dC_twiceInner_47 (by decide) (fun c47 => ?_) (fun c47 => ?_)
        · refine am_iconst (v := (-1)) dC_twiceInner_57 (by decide) ?_
          refine am_iret (st := []) rfl rfl dC_twiceInner_58 ?_
          exact k _ (by grind)
        · refine am_aload_n (i := 2) dC_twiceInner_50 rfl rfl ?_
          refine am_getf dC_twiceInner_51 flC_132 (by first | rfl | exact sk8 (by omega) | exact sk9 (by omega) | exact sk10 (by omega) | exact sk11 (by omega)) rfl ?_
          refine am_goto (tgt := 58) dC_twiceInner_54 (by decide) ?_
          refine am_iret (st := []) rfl rfl dC_twiceInner_58 ?_
          exact k _ (by grind)
      · refine am_iconst (v := (-1)) dC_twiceInner_27 (by decide) ?_
        refine am_iret (st := []) rfl rfl dC_twiceInner_28 ?_
        exact k _ (by grind)
set_option maxRecDepth 100000 in
set_option maxHeartbeats 4000000 in
theorem cC_workOf {g : am_G} {d : Nat} {Q : Option am_V → am_H → Prop} {Y : Nat → Nat → Nat → am_V} {A P : Nat → Nat → Int32} {st mk lv : Nat → Int32} {cl pr : Nat → Nat → Int32} {us : Nat → Int32} {va si wk : Int32} {v : Nat} (hv : v < 28) (h3 : q_arg (P v 3) v) (h4 : q_arg (P v 4) v) (hq : ¬ P v 3 = -1 ∨ ¬ 2 < P v 0) (k : ∀ r, r = q_work P v → Q (some (am_I r)) (hm (xc A P st mk lv cl pr us va si wk) Y)) : am_C g mC_workOf d 0 0 [am_O 0 0, am_O 9 v] (hm (xc A P st mk lv cl pr us va si wk) Y) Q := by
  refine am_enter (lv := [some (am_O 0 0), some (am_O 9 v), none]) rfl rfl (am_cat1 rfl) (Nat.le_of_ble_eq_true rfl) ?_
  refine am_aload_n (i := 1) dC_workOf_0 rfl rfl ?_
  refine am_getf dC_workOf_1 flC_129 (by first | rfl | exact sk8 (by omega) | exact sk9 (by omega) | exact sk10 (by omega) | exact sk11 (by omega)) rfl ?_
  refine am_iconst (v := 2) dC_workOf_4 (by decide) ?_
  refine am_icmp_gt (tgt := 10) dC_workOf_5 (by decide) (fun c5 => ?_) (fun c5 => ?_)
  · obtain ⟨g3, e3⟩ := h3.ix (by grind) (by omega)
    refine am_aload_n (i := 0) dC_workOf_10 rfl rfl ?_
    refine am_getf dC_workOf_11 flC_15 (by first | rfl | exact sk8 (by omega) | exact sk9 (by omega) | exact sk10 (by omega) | exact sk11 (by omega)) rfl ?_
    refine am_aload_n (i := 1) dC_workOf_14 rfl rfl ?_
    refine am_getf dC_workOf_15 flC_132 (by first | rfl | exact sk8 (by omega) | exact sk9 (by omega) | exact sk10 (by omega) | exact sk11 (by omega)) rfl ?_
    refine am_aald dC_workOf_18 (by first | rfl | exact sk8 (by omega) | exact sk9 (by omega) | exact sk10 (by omega) | exact sk11 (by omega)) e3 (by first | omega | assumption | decide) (by decide) (by decide) rfl rfl ?_
    refine am_astore_n (i := 2) dC_workOf_19 rfl (by decide) ?_
    refine am_aload_n (i := 1) dC_workOf_20 rfl rfl ?_
    refine am_getf dC_workOf_21 flC_129 (by first | rfl | exact sk8 (by omega) | exact sk9 (by omega) | exact sk10 (by omega) | exact sk11 (by omega)) rfl ?_
    refine am_bipush (v := 8) dC_workOf_24 (by decide) ?_
    refine am_icmp_ne (tgt := 44) dC_workOf_26 (by decide) (fun c26 => ?_) (fun c26 => ?_)
    · refine am_aload_n (i := 1) dC_workOf_44 rfl rfl ?_
      refine am_getf dC_workOf_45 flC_129 (by first | rfl | exact sk8 (by omega) | exact sk9 (by omega) | exact sk10 (by omega) | exact sk11 (by omega)) rfl ?_
      refine am_bipush (v := 9) dC_workOf_48 (by decide) ?_
      refine am_icmp_ne (tgt := 65) dC_workOf_50 (by decide) (fun c50 => ?_) (fun c50 => ?_)
      · refine am_aload_n (i := 1) dC_workOf_65 rfl rfl ?_
        refine am_getf dC_workOf_66 flC_83 (by first | rfl | exact sk8 (by omega) | exact sk9 (by omega) | exact sk10 (by omega) | exact sk11 (by omega)) rfl ?_
        refine am_aload_n (i := 1) dC_workOf_69 rfl rfl ?_
        refine am_getf dC_workOf_70 flC_89 (by first | rfl | exact sk8 (by omega) | exact sk9 (by omega) | exact sk10 (by omega) | exact sk11 (by omega)) rfl ?_
        refine am_imul dC_workOf_73 ?_
        refine am_iret (st := []) rfl rfl dC_workOf_74 ?_
        exact k _ (by unfold q_work; grind)
      · refine am_aload_n (i := 2) dC_workOf_53 rfl rfl ?_
        refine am_getf dC_workOf_54 flC_83 (by first | rfl | exact sk8 (by omega) | exact sk9 (by omega) | exact sk10 (by omega) | exact sk11 (by omega)) rfl ?_
        refine am_aload_n (i := 2) dC_workOf_57 rfl rfl ?_
        refine am_getf dC_workOf_58 flC_89 (by first | rfl | exact sk8 (by omega) | exact sk9 (by omega) | exact sk10 (by omega) | exact sk11 (by omega)) rfl ?_
        refine am_imul dC_workOf_61 ?_
        refine am_goto (tgt := 74) dC_workOf_62 (by decide) ?_
        refine am_iret (st := []) rfl rfl dC_workOf_74 ?_
        exact k _ (by unfold q_work; grind)
    · refine am_aload_n (i := 1) dC_workOf_29 rfl rfl ?_
      refine am_getf dC_workOf_30 flC_83 (by first | rfl | exact sk8 (by omega) | exact sk9 (by omega) | exact sk10 (by omega) | exact sk11 (by omega)) rfl ?_
      refine am_aload_n (i := 1) dC_workOf_33 rfl rfl ?_
      refine am_getf dC_workOf_34 flC_89 (by first | rfl | exact sk8 (by omega) | exact sk9 (by omega) | exact sk10 (by omega) | exact sk11 (by omega)) rfl ?_
      refine am_imul dC_workOf_37 ?_
      refine am_aload_n (i := 2) dC_workOf_38 rfl rfl ?_
      refine am_getf dC_workOf_39 flC_89 (by first | rfl | exact sk8 (by omega) | exact sk9 (by omega) | exact sk10 (by omega) | exact sk11 (by omega)) rfl ?_
      refine am_imul dC_workOf_42 ?_
      refine am_iret (st := []) rfl rfl dC_workOf_43 ?_
      exact k _ (by unfold q_work; grind)
  · refine am_iconst (v := 0) dC_workOf_8 (by decide) ?_
    refine am_iret (st := []) rfl rfl dC_workOf_9 ?_
    exact k _ (by unfold q_work; grind)
