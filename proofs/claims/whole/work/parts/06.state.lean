/-! ===== the heap behind the constructors: the class's regions 0 .. 12, the reference's 20 .. 33 ===== -/
def sh_K (r i : Nat) : Option am_E := match r with
  | 0 => match i with
    | 0 => some (.inl 1, 11)
    | _ => none
  | 1 => match i with
    | 0 => some (.inr (.object "MatrixModule$Operation"), 28)
    | _ => none
  | 2 => match i with
    | 0 => some (.inr (.object "MatrixModule$Operation"), 28)
    | _ => none
  | 3 => match i with
    | 0 => some (.inr .int, 28)
    | _ => none
  | 4 => match i with
    | 0 => some (.inr .boolean, 28)
    | _ => none
  | 5 => match i with
    | 0 => some (.inr .boolean, 28)
    | _ => none
  | 6 => match i with
    | 0 => some (.inr (.array .int), 28)
    | _ => none
  | 7 => match i with
    | 0 => some (.inr (.array .int), 4)
    | _ => none
  | 8 => if i < 28 then some (.inl 0, 7) else none
  | 9 => if i < 28 then some (.inl 0, 7) else none
  | 10 => if i < 28 then some (.inr .int, 16) else none
  | 11 => if i < 4 then some (.inr .int, 16) else none
  | 12 => match i with
    | 0 => some (.inr .int, 7)
    | _ => none
  | 20 => match i with
    | 0 => some (.inl 2, 15)
    | _ => none
  | 21 => match i with
    | 0 => some (.inr .int, 56)
    | _ => none
  | 22 => match i with
    | 0 => some (.inr .int, 56)
    | _ => none
  | 23 => match i with
    | 0 => some (.inr .int, 56)
    | _ => none
  | 24 => match i with
    | 0 => some (.inr .int, 56)
    | _ => none
  | 25 => match i with
    | 0 => some (.inr .int, 56)
    | _ => none
  | 26 => match i with
    | 0 => some (.inr .int, 28)
    | _ => none
  | 27 => match i with
    | 0 => some (.inr .int, 28)
    | _ => none
  | 28 => match i with
    | 0 => some (.inr .boolean, 28)
    | _ => none
  | 29 => match i with
    | 0 => some (.inr .int, 28)
    | _ => none
  | 30 => match i with
    | 0 => some (.inr .int, 64)
    | _ => none
  | 31 => match i with
    | 0 => some (.inr .int, 448)
    | _ => none
  | 32 => match i with
    | 0 => some (.inr .boolean, 28)
    | _ => none
  | 33 => match i with
    | 0 => some (.inr .int, 7)
    | _ => none
  | _ => none
/-- the class's own memory -/
def xc (A P : Nat → Nat → Int32) (st mk lv : Nat → Int32) (cl pr : Nat → Nat → Int32) (us : Nat → Int32) (va si wk : Int32) (r i k : Nat) : am_V := match r with
  | 0 => match i with
    | 0 => match k with
      | 0 => am_O 1 0
      | 1 => am_O 2 0
      | 2 => am_O 3 0
      | 3 => am_O 4 0
      | 4 => am_O 5 0
      | 5 => am_O 6 0
      | 6 => am_O 7 0
      | 7 => am_O 12 0
      | 8 => am_I va
      | 9 => am_I si
      | 10 => am_I wk
      | _ => am_N
    | _ => am_N
  | 1 => match i with
    | 0 => am_O 8 k
    | _ => am_N
  | 2 => match i with
    | 0 => am_O 9 k
    | _ => am_N
  | 3 => match i with
    | 0 => am_I (st k)
    | _ => am_N
  | 4 => match i with
    | 0 => am_I (mk k)
    | _ => am_N
  | 5 => match i with
    | 0 => am_I (lv k)
    | _ => am_N
  | 6 => match i with
    | 0 => am_O 10 k
    | _ => am_N
  | 7 => match i with
    | 0 => am_O 11 k
    | _ => am_N
  | 8 => am_I (A i k)
  | 9 => am_I (P i k)
  | 10 => am_I (cl i k)
  | 11 => am_I (pr i k)
  | 12 => match i with
    | 0 => am_I (us k)
    | _ => am_N
  | _ => am_N
/-- the reference's own memory -/
def yc (kd fi se np nq ro co mm sd pa ce wd ud : Nat → Int32) (vn sm : Int32) (r i k : Nat) : am_V := match r with
  | 0 => match i with
    | 0 => match k with
      | 0 => am_O 21 0
      | 1 => am_O 22 0
      | 2 => am_O 23 0
      | 3 => am_O 24 0
      | 4 => am_O 25 0
      | 5 => am_O 26 0
      | 6 => am_O 27 0
      | 7 => am_O 28 0
      | 8 => am_O 29 0
      | 9 => am_O 30 0
      | 10 => am_O 31 0
      | 11 => am_O 32 0
      | 12 => am_O 33 0
      | 13 => am_I vn
      | 14 => am_I sm
      | _ => am_N
    | _ => am_N
  | 1 => match i with
    | 0 => am_I (kd k)
    | _ => am_N
  | 2 => match i with
    | 0 => am_I (fi k)
    | _ => am_N
  | 3 => match i with
    | 0 => am_I (se k)
    | _ => am_N
  | 4 => match i with
    | 0 => am_I (np k)
    | _ => am_N
  | 5 => match i with
    | 0 => am_I (nq k)
    | _ => am_N
  | 6 => match i with
    | 0 => am_I (ro k)
    | _ => am_N
  | 7 => match i with
    | 0 => am_I (co k)
    | _ => am_N
  | 8 => match i with
    | 0 => am_I (mm k)
    | _ => am_N
  | 9 => match i with
    | 0 => am_I (sd k)
    | _ => am_N
  | 10 => match i with
    | 0 => am_I (pa k)
    | _ => am_N
  | 11 => match i with
    | 0 => am_I (ce k)
    | _ => am_N
  | 12 => match i with
    | 0 => am_I (wd k)
    | _ => am_N
  | 13 => match i with
    | 0 => am_I (ud k)
    | _ => am_N
  | _ => am_N
def hm (X Y : Nat → Nat → Nat → am_V) : am_H := (111, sh_K, fun r i k => bif Nat.ble 20 r then Y (r - 20) i k else X r i k)
def up2 (f : Nat → Nat → Int32) (i k : Nat) (x : Int32) : Nat → Nat → Int32 := fun i' k' => if i' = i ∧ k' = k then x else f i' k'
theorem up2_eq (f : Nat → Nat → Int32) (i k : Nat) (x : Int32) : up2 f i k x i k = x := if_pos ⟨rfl, rfl⟩
theorem up2_ne {f : Nat → Nat → Int32} {i k i' k' : Nat} {x : Int32} (h : ¬ (i' = i ∧ k' = k)) : up2 f i k x i' k' = f i' k' := if_neg h
theorem up2_i {f : Nat → Nat → Int32} {i k i' k' : Nat} {x : Int32} (h : i' ≠ i) : up2 f i k x i' k' = f i' k' := if_neg (fun q => h q.1)
theorem up2_k {f : Nat → Nat → Int32} {i k i' k' : Nat} {x : Int32} (h : k' ≠ k) : up2 f i k x i' k' = f i' k' := if_neg (fun q => h q.2)
theorem upd_eq (f : Nat → Int32) (k : Nat) (x : Int32) : upd f k x k = x := if_pos rfl
theorem upd_ne {f : Nat → Int32} {k j : Nat} {x : Int32} (h : j ≠ k) : upd f k x j = f j := if_neg h
theorem sk8 {X Y : Nat → Nat → Nat → am_V} {i : Nat} (h : i < 28) : (hm X Y).2.1 8 i = some (.inl 0, 7) := if_pos h
theorem sk9 {X Y : Nat → Nat → Nat → am_V} {i : Nat} (h : i < 28) : (hm X Y).2.1 9 i = some (.inl 0, 7) := if_pos h
theorem sk10 {X Y : Nat → Nat → Nat → am_V} {i : Nat} (h : i < 28) : (hm X Y).2.1 10 i = some (.inr .int, 16) := if_pos h
theorem sk11 {X Y : Nat → Nat → Nat → am_V} {i : Nat} (h : i < 4) : (hm X Y).2.1 11 i = some (.inr .int, 16) := if_pos h
theorem hm_X {X X' Y : Nat → Nat → Nat → am_V} {r i k : Nat} {v : am_V} (hr : r < 20) (h : ∀ r' i' k', (if r' = r ∧ i' = i ∧ k' = k then v else X r' i' k') = X' r' i' k') : am_up (hm X Y) r i k v = hm X' Y := by
  refine Prod.ext rfl (Prod.ext rfl ?_)
  funext r' i' k'
  show (if r' = r ∧ i' = i ∧ k' = k then v else (bif Nat.ble 20 r' then Y (r' - 20) i' k' else X r' i' k')) = (bif Nat.ble 20 r' then Y (r' - 20) i' k' else X' r' i' k')
  rw [← h r' i' k']
  cases hb : Nat.ble 20 r' with
  | true =>
    have : 20 ≤ r' := Nat.le_of_ble_eq_true hb
    rw [if_neg (fun q => by omega)]
    rfl
  | false => rfl
theorem hm_Y {X Y Y' : Nat → Nat → Nat → am_V} {r i k : Nat} {v : am_V} (h : ∀ r' i' k', (if r' = r ∧ i' = i ∧ k' = k then v else Y r' i' k') = Y' r' i' k') : am_up (hm X Y) (20 + r) i k v = hm X Y' := by
  refine Prod.ext rfl (Prod.ext rfl ?_)
  funext r' i' k'
  show (if r' = 20 + r ∧ i' = i ∧ k' = k then v else (bif Nat.ble 20 r' then Y (r' - 20) i' k' else X r' i' k')) = (bif Nat.ble 20 r' then Y' (r' - 20) i' k' else X r' i' k')
  cases hb : Nat.ble 20 r' with
  | true =>
    have : 20 ≤ r' := Nat.le_of_ble_eq_true hb
    show _ = Y' (r' - 20) i' k'
    rw [← h (r' - 20) i' k']
    by_cases hr : r' = 20 + r
    · subst hr
      rw [show 20 + r - 20 = r by omega]
      by_cases hc : i' = i ∧ k' = k
      · rw [if_pos ⟨rfl, hc⟩, if_pos ⟨rfl, hc⟩]
      · rw [if_neg (fun q => hc q.2), if_neg (fun q => hc q.2)]
        rfl
    · rw [if_neg (fun q => hr q.1), if_neg (fun q => hr (by omega))]
      rfl
  | false =>
    have : ¬ 20 ≤ r' := fun q => by rw [Nat.ble_eq_true_of_le q] at hb; cases hb
    rw [if_neg (fun q => by omega)]
    rfl
theorem wx_st {Y : Nat → Nat → Nat → am_V} {A P : Nat → Nat → Int32} {st mk lv : Nat → Int32} {cl pr : Nat → Nat → Int32} {us : Nat → Int32} {va si wk : Int32} {k : Nat} {x : Int32} : am_up (hm (xc A P st mk lv cl pr us va si wk) Y) 3 0 k (am_I x) = hm (xc A P (upd st k x) mk lv cl pr us va si wk) Y := by
  refine hm_X (by decide) (fun r' i' k' => ?_)
  by_cases hr : r' = 3
  · subst hr
    cases i' with
    | succ n => rw [if_neg (fun q => by omega)]; rfl
    | zero =>
      by_cases hc : k' = k
      · subst hc
        rw [if_pos ⟨rfl, rfl, rfl⟩]
        show _ = am_I (upd st k' x k')
        rw [upd_eq]
      · rw [if_neg (fun q => hc q.2.2)]
        show am_I (st k') = am_I (upd st k x k')
        rw [upd_ne hc]
  · rw [if_neg (fun q => hr q.1)]
    match r', hr with
    | 0, hr => first | rfl | exact absurd rfl hr
    | 1, hr => first | rfl | exact absurd rfl hr
    | 2, hr => first | rfl | exact absurd rfl hr
    | 3, hr => first | rfl | exact absurd rfl hr
    | 4, hr => first | rfl | exact absurd rfl hr
    | 5, hr => first | rfl | exact absurd rfl hr
    | 6, hr => first | rfl | exact absurd rfl hr
    | 7, hr => first | rfl | exact absurd rfl hr
    | 8, hr => first | rfl | exact absurd rfl hr
    | 9, hr => first | rfl | exact absurd rfl hr
    | 10, hr => first | rfl | exact absurd rfl hr
    | 11, hr => first | rfl | exact absurd rfl hr
    | 12, hr => first | rfl | exact absurd rfl hr
    | n + 13, _ => rfl
theorem wx_mk {Y : Nat → Nat → Nat → am_V} {A P : Nat → Nat → Int32} {st mk lv : Nat → Int32} {cl pr : Nat → Nat → Int32} {us : Nat → Int32} {va si wk : Int32} {k : Nat} {x : Int32} : am_up (hm (xc A P st mk lv cl pr us va si wk) Y) 4 0 k (am_I x) = hm (xc A P st (upd mk k x) lv cl pr us va si wk) Y := by
  refine hm_X (by decide) (fun r' i' k' => ?_)
  by_cases hr : r' = 4
  · subst hr
    cases i' with
    | succ n => rw [if_neg (fun q => by omega)]; rfl
    | zero =>
      by_cases hc : k' = k
      · subst hc
        rw [if_pos ⟨rfl, rfl, rfl⟩]
        show _ = am_I (upd mk k' x k')
        rw [upd_eq]
      · rw [if_neg (fun q => hc q.2.2)]
        show am_I (mk k') = am_I (upd mk k x k')
        rw [upd_ne hc]
  · rw [if_neg (fun q => hr q.1)]
    match r', hr with
    | 0, hr => first | rfl | exact absurd rfl hr
    | 1, hr => first | rfl | exact absurd rfl hr
    | 2, hr => first | rfl | exact absurd rfl hr
    | 3, hr => first | rfl | exact absurd rfl hr
    | 4, hr => first | rfl | exact absurd rfl hr
    | 5, hr => first | rfl | exact absurd rfl hr
    | 6, hr => first | rfl | exact absurd rfl hr
    | 7, hr => first | rfl | exact absurd rfl hr
    | 8, hr => first | rfl | exact absurd rfl hr
    | 9, hr => first | rfl | exact absurd rfl hr
    | 10, hr => first | rfl | exact absurd rfl hr
    | 11, hr => first | rfl | exact absurd rfl hr
    | 12, hr => first | rfl | exact absurd rfl hr
    | n + 13, _ => rfl
theorem wx_lv {Y : Nat → Nat → Nat → am_V} {A P : Nat → Nat → Int32} {st mk lv : Nat → Int32} {cl pr : Nat → Nat → Int32} {us : Nat → Int32} {va si wk : Int32} {k : Nat} {x : Int32} : am_up (hm (xc A P st mk lv cl pr us va si wk) Y) 5 0 k (am_I x) = hm (xc A P st mk (upd lv k x) cl pr us va si wk) Y := by
  refine hm_X (by decide) (fun r' i' k' => ?_)
  by_cases hr : r' = 5
  · subst hr
    cases i' with
    | succ n => rw [if_neg (fun q => by omega)]; rfl
    | zero =>
      by_cases hc : k' = k
      · subst hc
        rw [if_pos ⟨rfl, rfl, rfl⟩]
        show _ = am_I (upd lv k' x k')
        rw [upd_eq]
      · rw [if_neg (fun q => hc q.2.2)]
        show am_I (lv k') = am_I (upd lv k x k')
        rw [upd_ne hc]
  · rw [if_neg (fun q => hr q.1)]
    match r', hr with
    | 0, hr => first | rfl | exact absurd rfl hr
    | 1, hr => first | rfl | exact absurd rfl hr
    | 2, hr => first | rfl | exact absurd rfl hr
    | 3, hr => first | rfl | exact absurd rfl hr
    | 4, hr => first | rfl | exact absurd rfl hr
    | 5, hr => first | rfl | exact absurd rfl hr
    | 6, hr => first | rfl | exact absurd rfl hr
    | 7, hr => first | rfl | exact absurd rfl hr
    | 8, hr => first | rfl | exact absurd rfl hr
    | 9, hr => first | rfl | exact absurd rfl hr
    | 10, hr => first | rfl | exact absurd rfl hr
    | 11, hr => first | rfl | exact absurd rfl hr
    | 12, hr => first | rfl | exact absurd rfl hr
    | n + 13, _ => rfl
theorem wx_us {Y : Nat → Nat → Nat → am_V} {A P : Nat → Nat → Int32} {st mk lv : Nat → Int32} {cl pr : Nat → Nat → Int32} {us : Nat → Int32} {va si wk : Int32} {k : Nat} {x : Int32} : am_up (hm (xc A P st mk lv cl pr us va si wk) Y) 12 0 k (am_I x) = hm (xc A P st mk lv cl pr (upd us k x) va si wk) Y := by
  refine hm_X (by decide) (fun r' i' k' => ?_)
  by_cases hr : r' = 12
  · subst hr
    cases i' with
    | succ n => rw [if_neg (fun q => by omega)]; rfl
    | zero =>
      by_cases hc : k' = k
      · subst hc
        rw [if_pos ⟨rfl, rfl, rfl⟩]
        show _ = am_I (upd us k' x k')
        rw [upd_eq]
      · rw [if_neg (fun q => hc q.2.2)]
        show am_I (us k') = am_I (upd us k x k')
        rw [upd_ne hc]
  · rw [if_neg (fun q => hr q.1)]
    match r', hr with
    | 0, hr => first | rfl | exact absurd rfl hr
    | 1, hr => first | rfl | exact absurd rfl hr
    | 2, hr => first | rfl | exact absurd rfl hr
    | 3, hr => first | rfl | exact absurd rfl hr
    | 4, hr => first | rfl | exact absurd rfl hr
    | 5, hr => first | rfl | exact absurd rfl hr
    | 6, hr => first | rfl | exact absurd rfl hr
    | 7, hr => first | rfl | exact absurd rfl hr
    | 8, hr => first | rfl | exact absurd rfl hr
    | 9, hr => first | rfl | exact absurd rfl hr
    | 10, hr => first | rfl | exact absurd rfl hr
    | 11, hr => first | rfl | exact absurd rfl hr
    | 12, hr => first | rfl | exact absurd rfl hr
    | n + 13, _ => rfl
theorem wx_A {Y : Nat → Nat → Nat → am_V} {A P : Nat → Nat → Int32} {st mk lv : Nat → Int32} {cl pr : Nat → Nat → Int32} {us : Nat → Int32} {va si wk : Int32} {i k : Nat} {x : Int32} : am_up (hm (xc A P st mk lv cl pr us va si wk) Y) 8 i k (am_I x) = hm (xc (up2 A i k x) P st mk lv cl pr us va si wk) Y := by
  refine hm_X (by decide) (fun r' i' k' => ?_)
  by_cases hr : r' = 8
  · subst hr
    by_cases hc : i' = i ∧ k' = k
    · obtain ⟨rfl, rfl⟩ := hc
      rw [if_pos ⟨rfl, rfl, rfl⟩]
      show _ = am_I (up2 A i' k' x i' k')
      rw [up2_eq]
    · rw [if_neg (fun q => hc q.2)]
      show am_I (A i' k') = am_I (up2 A i k x i' k')
      rw [up2_ne hc]
  · rw [if_neg (fun q => hr q.1)]
    match r', hr with
    | 0, hr => first | rfl | exact absurd rfl hr
    | 1, hr => first | rfl | exact absurd rfl hr
    | 2, hr => first | rfl | exact absurd rfl hr
    | 3, hr => first | rfl | exact absurd rfl hr
    | 4, hr => first | rfl | exact absurd rfl hr
    | 5, hr => first | rfl | exact absurd rfl hr
    | 6, hr => first | rfl | exact absurd rfl hr
    | 7, hr => first | rfl | exact absurd rfl hr
    | 8, hr => first | rfl | exact absurd rfl hr
    | 9, hr => first | rfl | exact absurd rfl hr
    | 10, hr => first | rfl | exact absurd rfl hr
    | 11, hr => first | rfl | exact absurd rfl hr
    | 12, hr => first | rfl | exact absurd rfl hr
    | n + 13, _ => rfl
theorem wx_P {Y : Nat → Nat → Nat → am_V} {A P : Nat → Nat → Int32} {st mk lv : Nat → Int32} {cl pr : Nat → Nat → Int32} {us : Nat → Int32} {va si wk : Int32} {i k : Nat} {x : Int32} : am_up (hm (xc A P st mk lv cl pr us va si wk) Y) 9 i k (am_I x) = hm (xc A (up2 P i k x) st mk lv cl pr us va si wk) Y := by
  refine hm_X (by decide) (fun r' i' k' => ?_)
  by_cases hr : r' = 9
  · subst hr
    by_cases hc : i' = i ∧ k' = k
    · obtain ⟨rfl, rfl⟩ := hc
      rw [if_pos ⟨rfl, rfl, rfl⟩]
      show _ = am_I (up2 P i' k' x i' k')
      rw [up2_eq]
    · rw [if_neg (fun q => hc q.2)]
      show am_I (P i' k') = am_I (up2 P i k x i' k')
      rw [up2_ne hc]
  · rw [if_neg (fun q => hr q.1)]
    match r', hr with
    | 0, hr => first | rfl | exact absurd rfl hr
    | 1, hr => first | rfl | exact absurd rfl hr
    | 2, hr => first | rfl | exact absurd rfl hr
    | 3, hr => first | rfl | exact absurd rfl hr
    | 4, hr => first | rfl | exact absurd rfl hr
    | 5, hr => first | rfl | exact absurd rfl hr
    | 6, hr => first | rfl | exact absurd rfl hr
    | 7, hr => first | rfl | exact absurd rfl hr
    | 8, hr => first | rfl | exact absurd rfl hr
    | 9, hr => first | rfl | exact absurd rfl hr
    | 10, hr => first | rfl | exact absurd rfl hr
    | 11, hr => first | rfl | exact absurd rfl hr
    | 12, hr => first | rfl | exact absurd rfl hr
    | n + 13, _ => rfl
theorem wx_cl {Y : Nat → Nat → Nat → am_V} {A P : Nat → Nat → Int32} {st mk lv : Nat → Int32} {cl pr : Nat → Nat → Int32} {us : Nat → Int32} {va si wk : Int32} {i k : Nat} {x : Int32} : am_up (hm (xc A P st mk lv cl pr us va si wk) Y) 10 i k (am_I x) = hm (xc A P st mk lv (up2 cl i k x) pr us va si wk) Y := by
  refine hm_X (by decide) (fun r' i' k' => ?_)
  by_cases hr : r' = 10
  · subst hr
    by_cases hc : i' = i ∧ k' = k
    · obtain ⟨rfl, rfl⟩ := hc
      rw [if_pos ⟨rfl, rfl, rfl⟩]
      show _ = am_I (up2 cl i' k' x i' k')
      rw [up2_eq]
    · rw [if_neg (fun q => hc q.2)]
      show am_I (cl i' k') = am_I (up2 cl i k x i' k')
      rw [up2_ne hc]
  · rw [if_neg (fun q => hr q.1)]
    match r', hr with
    | 0, hr => first | rfl | exact absurd rfl hr
    | 1, hr => first | rfl | exact absurd rfl hr
    | 2, hr => first | rfl | exact absurd rfl hr
    | 3, hr => first | rfl | exact absurd rfl hr
    | 4, hr => first | rfl | exact absurd rfl hr
    | 5, hr => first | rfl | exact absurd rfl hr
    | 6, hr => first | rfl | exact absurd rfl hr
    | 7, hr => first | rfl | exact absurd rfl hr
    | 8, hr => first | rfl | exact absurd rfl hr
    | 9, hr => first | rfl | exact absurd rfl hr
    | 10, hr => first | rfl | exact absurd rfl hr
    | 11, hr => first | rfl | exact absurd rfl hr
    | 12, hr => first | rfl | exact absurd rfl hr
    | n + 13, _ => rfl
theorem wx_pr {Y : Nat → Nat → Nat → am_V} {A P : Nat → Nat → Int32} {st mk lv : Nat → Int32} {cl pr : Nat → Nat → Int32} {us : Nat → Int32} {va si wk : Int32} {i k : Nat} {x : Int32} : am_up (hm (xc A P st mk lv cl pr us va si wk) Y) 11 i k (am_I x) = hm (xc A P st mk lv cl (up2 pr i k x) us va si wk) Y := by
  refine hm_X (by decide) (fun r' i' k' => ?_)
  by_cases hr : r' = 11
  · subst hr
    by_cases hc : i' = i ∧ k' = k
    · obtain ⟨rfl, rfl⟩ := hc
      rw [if_pos ⟨rfl, rfl, rfl⟩]
      show _ = am_I (up2 pr i' k' x i' k')
      rw [up2_eq]
    · rw [if_neg (fun q => hc q.2)]
      show am_I (pr i' k') = am_I (up2 pr i k x i' k')
      rw [up2_ne hc]
  · rw [if_neg (fun q => hr q.1)]
    match r', hr with
    | 0, hr => first | rfl | exact absurd rfl hr
    | 1, hr => first | rfl | exact absurd rfl hr
    | 2, hr => first | rfl | exact absurd rfl hr
    | 3, hr => first | rfl | exact absurd rfl hr
    | 4, hr => first | rfl | exact absurd rfl hr
    | 5, hr => first | rfl | exact absurd rfl hr
    | 6, hr => first | rfl | exact absurd rfl hr
    | 7, hr => first | rfl | exact absurd rfl hr
    | 8, hr => first | rfl | exact absurd rfl hr
    | 9, hr => first | rfl | exact absurd rfl hr
    | 10, hr => first | rfl | exact absurd rfl hr
    | 11, hr => first | rfl | exact absurd rfl hr
    | 12, hr => first | rfl | exact absurd rfl hr
    | n + 13, _ => rfl
theorem wx_va {Y : Nat → Nat → Nat → am_V} {A P : Nat → Nat → Int32} {st mk lv : Nat → Int32} {cl pr : Nat → Nat → Int32} {us : Nat → Int32} {va si wk : Int32} {x : Int32} : am_up (hm (xc A P st mk lv cl pr us va si wk) Y) 0 0 8 (am_I x) = hm (xc A P st mk lv cl pr us x si wk) Y := by
  refine hm_X (by decide) (fun r' i' k' => ?_)
  by_cases hr : r' = 0
  · subst hr
    cases i' with
    | succ n => rw [if_neg (fun q => by omega)]; rfl
    | zero =>
      by_cases hc : k' = 8
      · subst hc
        rw [if_pos ⟨rfl, rfl, rfl⟩]
        rfl
      · rw [if_neg (fun q => hc q.2.2)]
        match k', hc with
        | 0, hc => first | rfl | exact absurd rfl hc
        | 1, hc => first | rfl | exact absurd rfl hc
        | 2, hc => first | rfl | exact absurd rfl hc
        | 3, hc => first | rfl | exact absurd rfl hc
        | 4, hc => first | rfl | exact absurd rfl hc
        | 5, hc => first | rfl | exact absurd rfl hc
        | 6, hc => first | rfl | exact absurd rfl hc
        | 7, hc => first | rfl | exact absurd rfl hc
        | 8, hc => first | rfl | exact absurd rfl hc
        | 9, hc => first | rfl | exact absurd rfl hc
        | 10, hc => first | rfl | exact absurd rfl hc
        | n + 11, _ => rfl
  · rw [if_neg (fun q => hr q.1)]
    match r', hr with
    | 0, hr => first | rfl | exact absurd rfl hr
    | 1, hr => first | rfl | exact absurd rfl hr
    | 2, hr => first | rfl | exact absurd rfl hr
    | 3, hr => first | rfl | exact absurd rfl hr
    | 4, hr => first | rfl | exact absurd rfl hr
    | 5, hr => first | rfl | exact absurd rfl hr
    | 6, hr => first | rfl | exact absurd rfl hr
    | 7, hr => first | rfl | exact absurd rfl hr
    | 8, hr => first | rfl | exact absurd rfl hr
    | 9, hr => first | rfl | exact absurd rfl hr
    | 10, hr => first | rfl | exact absurd rfl hr
    | 11, hr => first | rfl | exact absurd rfl hr
    | 12, hr => first | rfl | exact absurd rfl hr
    | n + 13, _ => rfl
theorem wx_si {Y : Nat → Nat → Nat → am_V} {A P : Nat → Nat → Int32} {st mk lv : Nat → Int32} {cl pr : Nat → Nat → Int32} {us : Nat → Int32} {va si wk : Int32} {x : Int32} : am_up (hm (xc A P st mk lv cl pr us va si wk) Y) 0 0 9 (am_I x) = hm (xc A P st mk lv cl pr us va x wk) Y := by
  refine hm_X (by decide) (fun r' i' k' => ?_)
  by_cases hr : r' = 0
  · subst hr
    cases i' with
    | succ n => rw [if_neg (fun q => by omega)]; rfl
    | zero =>
      by_cases hc : k' = 9
      · subst hc
        rw [if_pos ⟨rfl, rfl, rfl⟩]
        rfl
      · rw [if_neg (fun q => hc q.2.2)]
        match k', hc with
        | 0, hc => first | rfl | exact absurd rfl hc
        | 1, hc => first | rfl | exact absurd rfl hc
        | 2, hc => first | rfl | exact absurd rfl hc
        | 3, hc => first | rfl | exact absurd rfl hc
        | 4, hc => first | rfl | exact absurd rfl hc
        | 5, hc => first | rfl | exact absurd rfl hc
        | 6, hc => first | rfl | exact absurd rfl hc
        | 7, hc => first | rfl | exact absurd rfl hc
        | 8, hc => first | rfl | exact absurd rfl hc
        | 9, hc => first | rfl | exact absurd rfl hc
        | 10, hc => first | rfl | exact absurd rfl hc
        | n + 11, _ => rfl
  · rw [if_neg (fun q => hr q.1)]
    match r', hr with
    | 0, hr => first | rfl | exact absurd rfl hr
    | 1, hr => first | rfl | exact absurd rfl hr
    | 2, hr => first | rfl | exact absurd rfl hr
    | 3, hr => first | rfl | exact absurd rfl hr
    | 4, hr => first | rfl | exact absurd rfl hr
    | 5, hr => first | rfl | exact absurd rfl hr
    | 6, hr => first | rfl | exact absurd rfl hr
    | 7, hr => first | rfl | exact absurd rfl hr
    | 8, hr => first | rfl | exact absurd rfl hr
    | 9, hr => first | rfl | exact absurd rfl hr
    | 10, hr => first | rfl | exact absurd rfl hr
    | 11, hr => first | rfl | exact absurd rfl hr
    | 12, hr => first | rfl | exact absurd rfl hr
    | n + 13, _ => rfl
theorem wx_wk {Y : Nat → Nat → Nat → am_V} {A P : Nat → Nat → Int32} {st mk lv : Nat → Int32} {cl pr : Nat → Nat → Int32} {us : Nat → Int32} {va si wk : Int32} {x : Int32} : am_up (hm (xc A P st mk lv cl pr us va si wk) Y) 0 0 10 (am_I x) = hm (xc A P st mk lv cl pr us va si x) Y := by
  refine hm_X (by decide) (fun r' i' k' => ?_)
  by_cases hr : r' = 0
  · subst hr
    cases i' with
    | succ n => rw [if_neg (fun q => by omega)]; rfl
    | zero =>
      by_cases hc : k' = 10
      · subst hc
        rw [if_pos ⟨rfl, rfl, rfl⟩]
        rfl
      · rw [if_neg (fun q => hc q.2.2)]
        match k', hc with
        | 0, hc => first | rfl | exact absurd rfl hc
        | 1, hc => first | rfl | exact absurd rfl hc
        | 2, hc => first | rfl | exact absurd rfl hc
        | 3, hc => first | rfl | exact absurd rfl hc
        | 4, hc => first | rfl | exact absurd rfl hc
        | 5, hc => first | rfl | exact absurd rfl hc
        | 6, hc => first | rfl | exact absurd rfl hc
        | 7, hc => first | rfl | exact absurd rfl hc
        | 8, hc => first | rfl | exact absurd rfl hc
        | 9, hc => first | rfl | exact absurd rfl hc
        | 10, hc => first | rfl | exact absurd rfl hc
        | n + 11, _ => rfl
  · rw [if_neg (fun q => hr q.1)]
    match r', hr with
    | 0, hr => first | rfl | exact absurd rfl hr
    | 1, hr => first | rfl | exact absurd rfl hr
    | 2, hr => first | rfl | exact absurd rfl hr
    | 3, hr => first | rfl | exact absurd rfl hr
    | 4, hr => first | rfl | exact absurd rfl hr
    | 5, hr => first | rfl | exact absurd rfl hr
    | 6, hr => first | rfl | exact absurd rfl hr
    | 7, hr => first | rfl | exact absurd rfl hr
    | 8, hr => first | rfl | exact absurd rfl hr
    | 9, hr => first | rfl | exact absurd rfl hr
    | 10, hr => first | rfl | exact absurd rfl hr
    | 11, hr => first | rfl | exact absurd rfl hr
    | 12, hr => first | rfl | exact absurd rfl hr
    | n + 13, _ => rfl
theorem wy_kd {X : Nat → Nat → Nat → am_V} {kd fi se np nq ro co mm sd pa ce wd ud : Nat → Int32} {vn sm : Int32} {k : Nat} {x : Int32} : am_up (hm X (yc kd fi se np nq ro co mm sd pa ce wd ud vn sm)) 21 0 k (am_I x) = hm X (yc (upd kd k x) fi se np nq ro co mm sd pa ce wd ud vn sm) := by
  refine hm_Y (r := 1) (fun r' i' k' => ?_)
  by_cases hr : r' = 1
  · subst hr
    cases i' with
    | succ n => rw [if_neg (fun q => by omega)]; rfl
    | zero =>
      by_cases hc : k' = k
      · subst hc
        rw [if_pos ⟨rfl, rfl, rfl⟩]
        show _ = am_I (upd kd k' x k')
        rw [upd_eq]
      · rw [if_neg (fun q => hc q.2.2)]
        show am_I (kd k') = am_I (upd kd k x k')
        rw [upd_ne hc]
  · rw [if_neg (fun q => hr q.1)]
    match r', hr with
    | 0, hr => first | rfl | exact absurd rfl hr
    | 1, hr => first | rfl | exact absurd rfl hr
    | 2, hr => first | rfl | exact absurd rfl hr
    | 3, hr => first | rfl | exact absurd rfl hr
    | 4, hr => first | rfl | exact absurd rfl hr
    | 5, hr => first | rfl | exact absurd rfl hr
    | 6, hr => first | rfl | exact absurd rfl hr
    | 7, hr => first | rfl | exact absurd rfl hr
    | 8, hr => first | rfl | exact absurd rfl hr
    | 9, hr => first | rfl | exact absurd rfl hr
    | 10, hr => first | rfl | exact absurd rfl hr
    | 11, hr => first | rfl | exact absurd rfl hr
    | 12, hr => first | rfl | exact absurd rfl hr
    | 13, hr => first | rfl | exact absurd rfl hr
    | n + 14, _ => rfl
theorem wy_fi {X : Nat → Nat → Nat → am_V} {kd fi se np nq ro co mm sd pa ce wd ud : Nat → Int32} {vn sm : Int32} {k : Nat} {x : Int32} : am_up (hm X (yc kd fi se np nq ro co mm sd pa ce wd ud vn sm)) 22 0 k (am_I x) = hm X (yc kd (upd fi k x) se np nq ro co mm sd pa ce wd ud vn sm) := by
  refine hm_Y (r := 2) (fun r' i' k' => ?_)
  by_cases hr : r' = 2
  · subst hr
    cases i' with
    | succ n => rw [if_neg (fun q => by omega)]; rfl
    | zero =>
      by_cases hc : k' = k
      · subst hc
        rw [if_pos ⟨rfl, rfl, rfl⟩]
        show _ = am_I (upd fi k' x k')
        rw [upd_eq]
      · rw [if_neg (fun q => hc q.2.2)]
        show am_I (fi k') = am_I (upd fi k x k')
        rw [upd_ne hc]
  · rw [if_neg (fun q => hr q.1)]
    match r', hr with
    | 0, hr => first | rfl | exact absurd rfl hr
    | 1, hr => first | rfl | exact absurd rfl hr
    | 2, hr => first | rfl | exact absurd rfl hr
    | 3, hr => first | rfl | exact absurd rfl hr
    | 4, hr => first | rfl | exact absurd rfl hr
    | 5, hr => first | rfl | exact absurd rfl hr
    | 6, hr => first | rfl | exact absurd rfl hr
    | 7, hr => first | rfl | exact absurd rfl hr
    | 8, hr => first | rfl | exact absurd rfl hr
    | 9, hr => first | rfl | exact absurd rfl hr
    | 10, hr => first | rfl | exact absurd rfl hr
    | 11, hr => first | rfl | exact absurd rfl hr
    | 12, hr => first | rfl | exact absurd rfl hr
    | 13, hr => first | rfl | exact absurd rfl hr
    | n + 14, _ => rfl
theorem wy_se {X : Nat → Nat → Nat → am_V} {kd fi se np nq ro co mm sd pa ce wd ud : Nat → Int32} {vn sm : Int32} {k : Nat} {x : Int32} : am_up (hm X (yc kd fi se np nq ro co mm sd pa ce wd ud vn sm)) 23 0 k (am_I x) = hm X (yc kd fi (upd se k x) np nq ro co mm sd pa ce wd ud vn sm) := by
  refine hm_Y (r := 3) (fun r' i' k' => ?_)
  by_cases hr : r' = 3
  · subst hr
    cases i' with
    | succ n => rw [if_neg (fun q => by omega)]; rfl
    | zero =>
      by_cases hc : k' = k
      · subst hc
        rw [if_pos ⟨rfl, rfl, rfl⟩]
        show _ = am_I (upd se k' x k')
        rw [upd_eq]
      · rw [if_neg (fun q => hc q.2.2)]
        show am_I (se k') = am_I (upd se k x k')
        rw [upd_ne hc]
  · rw [if_neg (fun q => hr q.1)]
    match r', hr with
    | 0, hr => first | rfl | exact absurd rfl hr
    | 1, hr => first | rfl | exact absurd rfl hr
    | 2, hr => first | rfl | exact absurd rfl hr
    | 3, hr => first | rfl | exact absurd rfl hr
    | 4, hr => first | rfl | exact absurd rfl hr
    | 5, hr => first | rfl | exact absurd rfl hr
    | 6, hr => first | rfl | exact absurd rfl hr
    | 7, hr => first | rfl | exact absurd rfl hr
    | 8, hr => first | rfl | exact absurd rfl hr
    | 9, hr => first | rfl | exact absurd rfl hr
    | 10, hr => first | rfl | exact absurd rfl hr
    | 11, hr => first | rfl | exact absurd rfl hr
    | 12, hr => first | rfl | exact absurd rfl hr
    | 13, hr => first | rfl | exact absurd rfl hr
    | n + 14, _ => rfl
theorem wy_np {X : Nat → Nat → Nat → am_V} {kd fi se np nq ro co mm sd pa ce wd ud : Nat → Int32} {vn sm : Int32} {k : Nat} {x : Int32} : am_up (hm X (yc kd fi se np nq ro co mm sd pa ce wd ud vn sm)) 24 0 k (am_I x) = hm X (yc kd fi se (upd np k x) nq ro co mm sd pa ce wd ud vn sm) := by
  refine hm_Y (r := 4) (fun r' i' k' => ?_)
  by_cases hr : r' = 4
  · subst hr
    cases i' with
    | succ n => rw [if_neg (fun q => by omega)]; rfl
    | zero =>
      by_cases hc : k' = k
      · subst hc
        rw [if_pos ⟨rfl, rfl, rfl⟩]
        show _ = am_I (upd np k' x k')
        rw [upd_eq]
      · rw [if_neg (fun q => hc q.2.2)]
        show am_I (np k') = am_I (upd np k x k')
        rw [upd_ne hc]
  · rw [if_neg (fun q => hr q.1)]
    match r', hr with
    | 0, hr => first | rfl | exact absurd rfl hr
    | 1, hr => first | rfl | exact absurd rfl hr
    | 2, hr => first | rfl | exact absurd rfl hr
    | 3, hr => first | rfl | exact absurd rfl hr
    | 4, hr => first | rfl | exact absurd rfl hr
    | 5, hr => first | rfl | exact absurd rfl hr
    | 6, hr => first | rfl | exact absurd rfl hr
    | 7, hr => first | rfl | exact absurd rfl hr
    | 8, hr => first | rfl | exact absurd rfl hr
    | 9, hr => first | rfl | exact absurd rfl hr
    | 10, hr => first | rfl | exact absurd rfl hr
    | 11, hr => first | rfl | exact absurd rfl hr
    | 12, hr => first | rfl | exact absurd rfl hr
    | 13, hr => first | rfl | exact absurd rfl hr
    | n + 14, _ => rfl
theorem wy_nq {X : Nat → Nat → Nat → am_V} {kd fi se np nq ro co mm sd pa ce wd ud : Nat → Int32} {vn sm : Int32} {k : Nat} {x : Int32} : am_up (hm X (yc kd fi se np nq ro co mm sd pa ce wd ud vn sm)) 25 0 k (am_I x) = hm X (yc kd fi se np (upd nq k x) ro co mm sd pa ce wd ud vn sm) := by
  refine hm_Y (r := 5) (fun r' i' k' => ?_)
  by_cases hr : r' = 5
  · subst hr
    cases i' with
    | succ n => rw [if_neg (fun q => by omega)]; rfl
    | zero =>
      by_cases hc : k' = k
      · subst hc
        rw [if_pos ⟨rfl, rfl, rfl⟩]
        show _ = am_I (upd nq k' x k')
        rw [upd_eq]
      · rw [if_neg (fun q => hc q.2.2)]
        show am_I (nq k') = am_I (upd nq k x k')
        rw [upd_ne hc]
  · rw [if_neg (fun q => hr q.1)]
    match r', hr with
    | 0, hr => first | rfl | exact absurd rfl hr
    | 1, hr => first | rfl | exact absurd rfl hr
    | 2, hr => first | rfl | exact absurd rfl hr
    | 3, hr => first | rfl | exact absurd rfl hr
    | 4, hr => first | rfl | exact absurd rfl hr
    | 5, hr => first | rfl | exact absurd rfl hr
    | 6, hr => first | rfl | exact absurd rfl hr
    | 7, hr => first | rfl | exact absurd rfl hr
    | 8, hr => first | rfl | exact absurd rfl hr
    | 9, hr => first | rfl | exact absurd rfl hr
    | 10, hr => first | rfl | exact absurd rfl hr
    | 11, hr => first | rfl | exact absurd rfl hr
    | 12, hr => first | rfl | exact absurd rfl hr
    | 13, hr => first | rfl | exact absurd rfl hr
    | n + 14, _ => rfl
theorem wy_ro {X : Nat → Nat → Nat → am_V} {kd fi se np nq ro co mm sd pa ce wd ud : Nat → Int32} {vn sm : Int32} {k : Nat} {x : Int32} : am_up (hm X (yc kd fi se np nq ro co mm sd pa ce wd ud vn sm)) 26 0 k (am_I x) = hm X (yc kd fi se np nq (upd ro k x) co mm sd pa ce wd ud vn sm) := by
  refine hm_Y (r := 6) (fun r' i' k' => ?_)
  by_cases hr : r' = 6
  · subst hr
    cases i' with
    | succ n => rw [if_neg (fun q => by omega)]; rfl
    | zero =>
      by_cases hc : k' = k
      · subst hc
        rw [if_pos ⟨rfl, rfl, rfl⟩]
        show _ = am_I (upd ro k' x k')
        rw [upd_eq]
      · rw [if_neg (fun q => hc q.2.2)]
        show am_I (ro k') = am_I (upd ro k x k')
        rw [upd_ne hc]
  · rw [if_neg (fun q => hr q.1)]
    match r', hr with
    | 0, hr => first | rfl | exact absurd rfl hr
    | 1, hr => first | rfl | exact absurd rfl hr
    | 2, hr => first | rfl | exact absurd rfl hr
    | 3, hr => first | rfl | exact absurd rfl hr
    | 4, hr => first | rfl | exact absurd rfl hr
    | 5, hr => first | rfl | exact absurd rfl hr
    | 6, hr => first | rfl | exact absurd rfl hr
    | 7, hr => first | rfl | exact absurd rfl hr
    | 8, hr => first | rfl | exact absurd rfl hr
    | 9, hr => first | rfl | exact absurd rfl hr
    | 10, hr => first | rfl | exact absurd rfl hr
    | 11, hr => first | rfl | exact absurd rfl hr
    | 12, hr => first | rfl | exact absurd rfl hr
    | 13, hr => first | rfl | exact absurd rfl hr
    | n + 14, _ => rfl
theorem wy_co {X : Nat → Nat → Nat → am_V} {kd fi se np nq ro co mm sd pa ce wd ud : Nat → Int32} {vn sm : Int32} {k : Nat} {x : Int32} : am_up (hm X (yc kd fi se np nq ro co mm sd pa ce wd ud vn sm)) 27 0 k (am_I x) = hm X (yc kd fi se np nq ro (upd co k x) mm sd pa ce wd ud vn sm) := by
  refine hm_Y (r := 7) (fun r' i' k' => ?_)
  by_cases hr : r' = 7
  · subst hr
    cases i' with
    | succ n => rw [if_neg (fun q => by omega)]; rfl
    | zero =>
      by_cases hc : k' = k
      · subst hc
        rw [if_pos ⟨rfl, rfl, rfl⟩]
        show _ = am_I (upd co k' x k')
        rw [upd_eq]
      · rw [if_neg (fun q => hc q.2.2)]
        show am_I (co k') = am_I (upd co k x k')
        rw [upd_ne hc]
  · rw [if_neg (fun q => hr q.1)]
    match r', hr with
    | 0, hr => first | rfl | exact absurd rfl hr
    | 1, hr => first | rfl | exact absurd rfl hr
    | 2, hr => first | rfl | exact absurd rfl hr
    | 3, hr => first | rfl | exact absurd rfl hr
    | 4, hr => first | rfl | exact absurd rfl hr
    | 5, hr => first | rfl | exact absurd rfl hr
    | 6, hr => first | rfl | exact absurd rfl hr
    | 7, hr => first | rfl | exact absurd rfl hr
    | 8, hr => first | rfl | exact absurd rfl hr
    | 9, hr => first | rfl | exact absurd rfl hr
    | 10, hr => first | rfl | exact absurd rfl hr
    | 11, hr => first | rfl | exact absurd rfl hr
    | 12, hr => first | rfl | exact absurd rfl hr
    | 13, hr => first | rfl | exact absurd rfl hr
    | n + 14, _ => rfl
theorem wy_mm {X : Nat → Nat → Nat → am_V} {kd fi se np nq ro co mm sd pa ce wd ud : Nat → Int32} {vn sm : Int32} {k : Nat} {x : Int32} : am_up (hm X (yc kd fi se np nq ro co mm sd pa ce wd ud vn sm)) 28 0 k (am_I x) = hm X (yc kd fi se np nq ro co (upd mm k x) sd pa ce wd ud vn sm) := by
  refine hm_Y (r := 8) (fun r' i' k' => ?_)
  by_cases hr : r' = 8
  · subst hr
    cases i' with
    | succ n => rw [if_neg (fun q => by omega)]; rfl
    | zero =>
      by_cases hc : k' = k
      · subst hc
        rw [if_pos ⟨rfl, rfl, rfl⟩]
        show _ = am_I (upd mm k' x k')
        rw [upd_eq]
      · rw [if_neg (fun q => hc q.2.2)]
        show am_I (mm k') = am_I (upd mm k x k')
        rw [upd_ne hc]
  · rw [if_neg (fun q => hr q.1)]
    match r', hr with
    | 0, hr => first | rfl | exact absurd rfl hr
    | 1, hr => first | rfl | exact absurd rfl hr
    | 2, hr => first | rfl | exact absurd rfl hr
    | 3, hr => first | rfl | exact absurd rfl hr
    | 4, hr => first | rfl | exact absurd rfl hr
    | 5, hr => first | rfl | exact absurd rfl hr
    | 6, hr => first | rfl | exact absurd rfl hr
    | 7, hr => first | rfl | exact absurd rfl hr
    | 8, hr => first | rfl | exact absurd rfl hr
    | 9, hr => first | rfl | exact absurd rfl hr
    | 10, hr => first | rfl | exact absurd rfl hr
    | 11, hr => first | rfl | exact absurd rfl hr
    | 12, hr => first | rfl | exact absurd rfl hr
    | 13, hr => first | rfl | exact absurd rfl hr
    | n + 14, _ => rfl
theorem wy_sd {X : Nat → Nat → Nat → am_V} {kd fi se np nq ro co mm sd pa ce wd ud : Nat → Int32} {vn sm : Int32} {k : Nat} {x : Int32} : am_up (hm X (yc kd fi se np nq ro co mm sd pa ce wd ud vn sm)) 29 0 k (am_I x) = hm X (yc kd fi se np nq ro co mm (upd sd k x) pa ce wd ud vn sm) := by
  refine hm_Y (r := 9) (fun r' i' k' => ?_)
  by_cases hr : r' = 9
  · subst hr
    cases i' with
    | succ n => rw [if_neg (fun q => by omega)]; rfl
    | zero =>
      by_cases hc : k' = k
      · subst hc
        rw [if_pos ⟨rfl, rfl, rfl⟩]
        show _ = am_I (upd sd k' x k')
        rw [upd_eq]
      · rw [if_neg (fun q => hc q.2.2)]
        show am_I (sd k') = am_I (upd sd k x k')
        rw [upd_ne hc]
  · rw [if_neg (fun q => hr q.1)]
    match r', hr with
    | 0, hr => first | rfl | exact absurd rfl hr
    | 1, hr => first | rfl | exact absurd rfl hr
    | 2, hr => first | rfl | exact absurd rfl hr
    | 3, hr => first | rfl | exact absurd rfl hr
    | 4, hr => first | rfl | exact absurd rfl hr
    | 5, hr => first | rfl | exact absurd rfl hr
    | 6, hr => first | rfl | exact absurd rfl hr
    | 7, hr => first | rfl | exact absurd rfl hr
    | 8, hr => first | rfl | exact absurd rfl hr
    | 9, hr => first | rfl | exact absurd rfl hr
    | 10, hr => first | rfl | exact absurd rfl hr
    | 11, hr => first | rfl | exact absurd rfl hr
    | 12, hr => first | rfl | exact absurd rfl hr
    | 13, hr => first | rfl | exact absurd rfl hr
    | n + 14, _ => rfl
theorem wy_pa {X : Nat → Nat → Nat → am_V} {kd fi se np nq ro co mm sd pa ce wd ud : Nat → Int32} {vn sm : Int32} {k : Nat} {x : Int32} : am_up (hm X (yc kd fi se np nq ro co mm sd pa ce wd ud vn sm)) 30 0 k (am_I x) = hm X (yc kd fi se np nq ro co mm sd (upd pa k x) ce wd ud vn sm) := by
  refine hm_Y (r := 10) (fun r' i' k' => ?_)
  by_cases hr : r' = 10
  · subst hr
    cases i' with
    | succ n => rw [if_neg (fun q => by omega)]; rfl
    | zero =>
      by_cases hc : k' = k
      · subst hc
        rw [if_pos ⟨rfl, rfl, rfl⟩]
        show _ = am_I (upd pa k' x k')
        rw [upd_eq]
      · rw [if_neg (fun q => hc q.2.2)]
        show am_I (pa k') = am_I (upd pa k x k')
        rw [upd_ne hc]
  · rw [if_neg (fun q => hr q.1)]
    match r', hr with
    | 0, hr => first | rfl | exact absurd rfl hr
    | 1, hr => first | rfl | exact absurd rfl hr
    | 2, hr => first | rfl | exact absurd rfl hr
    | 3, hr => first | rfl | exact absurd rfl hr
    | 4, hr => first | rfl | exact absurd rfl hr
    | 5, hr => first | rfl | exact absurd rfl hr
    | 6, hr => first | rfl | exact absurd rfl hr
    | 7, hr => first | rfl | exact absurd rfl hr
    | 8, hr => first | rfl | exact absurd rfl hr
    | 9, hr => first | rfl | exact absurd rfl hr
    | 10, hr => first | rfl | exact absurd rfl hr
    | 11, hr => first | rfl | exact absurd rfl hr
    | 12, hr => first | rfl | exact absurd rfl hr
    | 13, hr => first | rfl | exact absurd rfl hr
    | n + 14, _ => rfl
theorem wy_ce {X : Nat → Nat → Nat → am_V} {kd fi se np nq ro co mm sd pa ce wd ud : Nat → Int32} {vn sm : Int32} {k : Nat} {x : Int32} : am_up (hm X (yc kd fi se np nq ro co mm sd pa ce wd ud vn sm)) 31 0 k (am_I x) = hm X (yc kd fi se np nq ro co mm sd pa (upd ce k x) wd ud vn sm) := by
  refine hm_Y (r := 11) (fun r' i' k' => ?_)
  by_cases hr : r' = 11
  · subst hr
    cases i' with
    | succ n => rw [if_neg (fun q => by omega)]; rfl
    | zero =>
      by_cases hc : k' = k
      · subst hc
        rw [if_pos ⟨rfl, rfl, rfl⟩]
        show _ = am_I (upd ce k' x k')
        rw [upd_eq]
      · rw [if_neg (fun q => hc q.2.2)]
        show am_I (ce k') = am_I (upd ce k x k')
        rw [upd_ne hc]
  · rw [if_neg (fun q => hr q.1)]
    match r', hr with
    | 0, hr => first | rfl | exact absurd rfl hr
    | 1, hr => first | rfl | exact absurd rfl hr
    | 2, hr => first | rfl | exact absurd rfl hr
    | 3, hr => first | rfl | exact absurd rfl hr
    | 4, hr => first | rfl | exact absurd rfl hr
    | 5, hr => first | rfl | exact absurd rfl hr
    | 6, hr => first | rfl | exact absurd rfl hr
    | 7, hr => first | rfl | exact absurd rfl hr
    | 8, hr => first | rfl | exact absurd rfl hr
    | 9, hr => first | rfl | exact absurd rfl hr
    | 10, hr => first | rfl | exact absurd rfl hr
    | 11, hr => first | rfl | exact absurd rfl hr
    | 12, hr => first | rfl | exact absurd rfl hr
    | 13, hr => first | rfl | exact absurd rfl hr
    | n + 14, _ => rfl
theorem wy_wd {X : Nat → Nat → Nat → am_V} {kd fi se np nq ro co mm sd pa ce wd ud : Nat → Int32} {vn sm : Int32} {k : Nat} {x : Int32} : am_up (hm X (yc kd fi se np nq ro co mm sd pa ce wd ud vn sm)) 32 0 k (am_I x) = hm X (yc kd fi se np nq ro co mm sd pa ce (upd wd k x) ud vn sm) := by
  refine hm_Y (r := 12) (fun r' i' k' => ?_)
  by_cases hr : r' = 12
  · subst hr
    cases i' with
    | succ n => rw [if_neg (fun q => by omega)]; rfl
    | zero =>
      by_cases hc : k' = k
      · subst hc
        rw [if_pos ⟨rfl, rfl, rfl⟩]
        show _ = am_I (upd wd k' x k')
        rw [upd_eq]
      · rw [if_neg (fun q => hc q.2.2)]
        show am_I (wd k') = am_I (upd wd k x k')
        rw [upd_ne hc]
  · rw [if_neg (fun q => hr q.1)]
    match r', hr with
    | 0, hr => first | rfl | exact absurd rfl hr
    | 1, hr => first | rfl | exact absurd rfl hr
    | 2, hr => first | rfl | exact absurd rfl hr
    | 3, hr => first | rfl | exact absurd rfl hr
    | 4, hr => first | rfl | exact absurd rfl hr
    | 5, hr => first | rfl | exact absurd rfl hr
    | 6, hr => first | rfl | exact absurd rfl hr
    | 7, hr => first | rfl | exact absurd rfl hr
    | 8, hr => first | rfl | exact absurd rfl hr
    | 9, hr => first | rfl | exact absurd rfl hr
    | 10, hr => first | rfl | exact absurd rfl hr
    | 11, hr => first | rfl | exact absurd rfl hr
    | 12, hr => first | rfl | exact absurd rfl hr
    | 13, hr => first | rfl | exact absurd rfl hr
    | n + 14, _ => rfl
theorem wy_ud {X : Nat → Nat → Nat → am_V} {kd fi se np nq ro co mm sd pa ce wd ud : Nat → Int32} {vn sm : Int32} {k : Nat} {x : Int32} : am_up (hm X (yc kd fi se np nq ro co mm sd pa ce wd ud vn sm)) 33 0 k (am_I x) = hm X (yc kd fi se np nq ro co mm sd pa ce wd (upd ud k x) vn sm) := by
  refine hm_Y (r := 13) (fun r' i' k' => ?_)
  by_cases hr : r' = 13
  · subst hr
    cases i' with
    | succ n => rw [if_neg (fun q => by omega)]; rfl
    | zero =>
      by_cases hc : k' = k
      · subst hc
        rw [if_pos ⟨rfl, rfl, rfl⟩]
        show _ = am_I (upd ud k' x k')
        rw [upd_eq]
      · rw [if_neg (fun q => hc q.2.2)]
        show am_I (ud k') = am_I (upd ud k x k')
        rw [upd_ne hc]
  · rw [if_neg (fun q => hr q.1)]
    match r', hr with
    | 0, hr => first | rfl | exact absurd rfl hr
    | 1, hr => first | rfl | exact absurd rfl hr
    | 2, hr => first | rfl | exact absurd rfl hr
    | 3, hr => first | rfl | exact absurd rfl hr
    | 4, hr => first | rfl | exact absurd rfl hr
    | 5, hr => first | rfl | exact absurd rfl hr
    | 6, hr => first | rfl | exact absurd rfl hr
    | 7, hr => first | rfl | exact absurd rfl hr
    | 8, hr => first | rfl | exact absurd rfl hr
    | 9, hr => first | rfl | exact absurd rfl hr
    | 10, hr => first | rfl | exact absurd rfl hr
    | 11, hr => first | rfl | exact absurd rfl hr
    | 12, hr => first | rfl | exact absurd rfl hr
    | 13, hr => first | rfl | exact absurd rfl hr
    | n + 14, _ => rfl
theorem wy_vn {X : Nat → Nat → Nat → am_V} {kd fi se np nq ro co mm sd pa ce wd ud : Nat → Int32} {vn sm : Int32} {x : Int32} : am_up (hm X (yc kd fi se np nq ro co mm sd pa ce wd ud vn sm)) 20 0 13 (am_I x) = hm X (yc kd fi se np nq ro co mm sd pa ce wd ud x sm) := by
  refine hm_Y (r := 0) (fun r' i' k' => ?_)
  by_cases hr : r' = 0
  · subst hr
    cases i' with
    | succ n => rw [if_neg (fun q => by omega)]; rfl
    | zero =>
      by_cases hc : k' = 13
      · subst hc
        rw [if_pos ⟨rfl, rfl, rfl⟩]
        rfl
      · rw [if_neg (fun q => hc q.2.2)]
        match k', hc with
        | 0, hc => first | rfl | exact absurd rfl hc
        | 1, hc => first | rfl | exact absurd rfl hc
        | 2, hc => first | rfl | exact absurd rfl hc
        | 3, hc => first | rfl | exact absurd rfl hc
        | 4, hc => first | rfl | exact absurd rfl hc
        | 5, hc => first | rfl | exact absurd rfl hc
        | 6, hc => first | rfl | exact absurd rfl hc
        | 7, hc => first | rfl | exact absurd rfl hc
        | 8, hc => first | rfl | exact absurd rfl hc
        | 9, hc => first | rfl | exact absurd rfl hc
        | 10, hc => first | rfl | exact absurd rfl hc
        | 11, hc => first | rfl | exact absurd rfl hc
        | 12, hc => first | rfl | exact absurd rfl hc
        | 13, hc => first | rfl | exact absurd rfl hc
        | 14, hc => first | rfl | exact absurd rfl hc
        | n + 15, _ => rfl
  · rw [if_neg (fun q => hr q.1)]
    match r', hr with
    | 0, hr => first | rfl | exact absurd rfl hr
    | 1, hr => first | rfl | exact absurd rfl hr
    | 2, hr => first | rfl | exact absurd rfl hr
    | 3, hr => first | rfl | exact absurd rfl hr
    | 4, hr => first | rfl | exact absurd rfl hr
    | 5, hr => first | rfl | exact absurd rfl hr
    | 6, hr => first | rfl | exact absurd rfl hr
    | 7, hr => first | rfl | exact absurd rfl hr
    | 8, hr => first | rfl | exact absurd rfl hr
    | 9, hr => first | rfl | exact absurd rfl hr
    | 10, hr => first | rfl | exact absurd rfl hr
    | 11, hr => first | rfl | exact absurd rfl hr
    | 12, hr => first | rfl | exact absurd rfl hr
    | 13, hr => first | rfl | exact absurd rfl hr
    | n + 14, _ => rfl
theorem wy_sm {X : Nat → Nat → Nat → am_V} {kd fi se np nq ro co mm sd pa ce wd ud : Nat → Int32} {vn sm : Int32} {x : Int32} : am_up (hm X (yc kd fi se np nq ro co mm sd pa ce wd ud vn sm)) 20 0 14 (am_I x) = hm X (yc kd fi se np nq ro co mm sd pa ce wd ud vn x) := by
  refine hm_Y (r := 0) (fun r' i' k' => ?_)
  by_cases hr : r' = 0
  · subst hr
    cases i' with
    | succ n => rw [if_neg (fun q => by omega)]; rfl
    | zero =>
      by_cases hc : k' = 14
      · subst hc
        rw [if_pos ⟨rfl, rfl, rfl⟩]
        rfl
      · rw [if_neg (fun q => hc q.2.2)]
        match k', hc with
        | 0, hc => first | rfl | exact absurd rfl hc
        | 1, hc => first | rfl | exact absurd rfl hc
        | 2, hc => first | rfl | exact absurd rfl hc
        | 3, hc => first | rfl | exact absurd rfl hc
        | 4, hc => first | rfl | exact absurd rfl hc
        | 5, hc => first | rfl | exact absurd rfl hc
        | 6, hc => first | rfl | exact absurd rfl hc
        | 7, hc => first | rfl | exact absurd rfl hc
        | 8, hc => first | rfl | exact absurd rfl hc
        | 9, hc => first | rfl | exact absurd rfl hc
        | 10, hc => first | rfl | exact absurd rfl hc
        | 11, hc => first | rfl | exact absurd rfl hc
        | 12, hc => first | rfl | exact absurd rfl hc
        | 13, hc => first | rfl | exact absurd rfl hc
        | 14, hc => first | rfl | exact absurd rfl hc
        | n + 15, _ => rfl
  · rw [if_neg (fun q => hr q.1)]
    match r', hr with
    | 0, hr => first | rfl | exact absurd rfl hr
    | 1, hr => first | rfl | exact absurd rfl hr
    | 2, hr => first | rfl | exact absurd rfl hr
    | 3, hr => first | rfl | exact absurd rfl hr
    | 4, hr => first | rfl | exact absurd rfl hr
    | 5, hr => first | rfl | exact absurd rfl hr
    | 6, hr => first | rfl | exact absurd rfl hr
    | 7, hr => first | rfl | exact absurd rfl hr
    | 8, hr => first | rfl | exact absurd rfl hr
    | 9, hr => first | rfl | exact absurd rfl hr
    | 10, hr => first | rfl | exact absurd rfl hr
    | 11, hr => first | rfl | exact absurd rfl hr
    | 12, hr => first | rfl | exact absurd rfl hr
    | 13, hr => first | rfl | exact absurd rfl hr
    | n + 14, _ => rfl
