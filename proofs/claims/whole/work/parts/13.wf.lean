/-! ===== well-formed tables ===== -/
def q_dim (x : Int32) : Prop := ∃ r, 1 ≤ r ∧ r ≤ 4 ∧ x = nI r
def q_kind (x : Int32) : Prop := ∃ κ, κ ≤ 12 ∧ x = nI κ
def q_bas (P : Nat → Nat → Int32) (v : Nat) : Prop := q_arg (P v 3) v ∧ q_arg (P v 4) v ∧ (2 < P v 0 → ¬ P v 3 = -1) ∧ ((P v 0 = 3 ∨ P v 0 = 4 ∨ P v 0 = 5 ∨ P v 0 = 8) → ¬ P v 4 = -1)
/-- the shapes fit: r, c the value's, ra, ca, rb, cb its arguments' -/
def q_fit (κ p q r c ra ca rb cb : Int32) : Prop :=
  ((κ = 3 ∨ κ = 4 ∨ κ = 5) → (r = ra ∧ c = ca) ∧ r = rb ∧ c = cb) ∧ (κ = 6 → r = ra ∧ c = ca) ∧ (κ = 7 → r = ca ∧ c = ra) ∧ (κ = 8 → r = ra ∧ c = cb ∧ ca = rb) ∧
  (κ = 9 → (p = 0 ∧ r = 1 ∧ c = ca) ∨ (p = 1 ∧ r = ra ∧ c = 1)) ∧ (κ = 10 → (ra = 1 ∨ ra = r) ∧ (ca = 1 ∨ ca = c)) ∧ (κ = 11 → ra * ca = r * c) ∧
  (κ = 12 → ∃ p0 q0 : Nat, p = nI p0 ∧ q = nI q0 ∧ p0 + ix r ≤ ix ra ∧ q0 + ix c ≤ ix ca) ∧ (κ = 0 → ∃ p0 : Nat, p0 < 4 ∧ p = nI p0)
def q_com (P : Nat → Nat → Int32) (v : Nat) : Prop := q_fit (P v 0) (P v 5) (P v 6) (P v 1) (P v 2) (P (ix (P v 3)) 1) (P (ix (P v 3)) 2) (P (ix (P v 4)) 1) (P (ix (P v 4)) 2)
def q_ok (P : Nat → Nat → Int32) (v : Nat) : Prop := q_bas P v ∧ q_com P v ∧ q_kind (P v 0) ∧ q_dim (P v 1) ∧ q_dim (P v 2)
theorem q_fit1 {p q r c ra ca rb cb : Int32} : q_fit 1 p q r c ra ca rb cb := ⟨fun h => absurd h (by decide), fun h => absurd h (by decide), fun h => absurd h (by decide), fun h => absurd h (by decide), fun h => absurd h (by decide), fun h => absurd h (by decide), fun h => absurd h (by decide), fun h => absurd h (by decide), fun h => absurd h (by decide)⟩
/-- the state of simplifying: rows fit; each stand-in is a value not after it, of its shape; those from i on stand for themselves -/
def q_J (n i : Nat) (P : Nat → Nat → Int32) (st : Nat → Int32) : Prop := (∀ v, v < n → q_ok P v) ∧ ∀ u, u < n → ∃ j, j ≤ u ∧ st u = nI j ∧ q_shp P u j ∧ (i ≤ u → j = u)
def q_sP (st : Nat → Int32) (P : Nat → Nat → Int32) (v : Nat) : Nat → Nat → Int32 := q_tab (q_rep st P v) v
def q_sx (st : Nat → Int32) (P : Nat → Nat → Int32) (v : Nat) : Int32 := q_std st (q_rep st P v) v
def q_sU (st : Nat → Int32) (P : Nat → Nat → Int32) (us : Nat → Int32) (v : Nat) : Nat → Int32 := q_use st (q_rep st P v) us v
def q_run : Nat → Nat → (Nat → Nat → Int32) → (Nat → Int32) → (Nat → Int32) → Nat → ((Nat → Nat → Int32) × (Nat → Int32) × (Nat → Int32) × Nat)
  | 0, _, P, st, us, c => (P, st, us, c)
  | j + 1, i, P, st, us, c => q_run j (i + 1) (q_sP st P i) (upd st i (q_sx st P i)) (q_sU st P us i) (if q_sx st P i = nI i then c + 1 else c)
/-! a step keeps it -/
theorem q_rep_o {st : Nat → Int32} {P : Nat → Nat → Int32} {v u k : Nat} (h : u ≠ v ∨ (k ≠ 3 ∧ k ≠ 4)) : q_rep st P v u k = P u k := by
  unfold q_rep up2
  grind
theorem q_rep_3 {st : Nat → Int32} {P : Nat → Nat → Int32} {v : Nat} : q_rep st P v v 3 = if q_sw st P v then q_r4 st P v else q_r3 st P v := by
  unfold q_rep up2
  grind
theorem q_rep_4 {st : Nat → Int32} {P : Nat → Nat → Int32} {v : Nat} : q_rep st P v v 4 = if q_sw st P v then q_r3 st P v else q_r4 st P v := by
  unfold q_rep up2
  grind
theorem q_J_st {n i u : Nat} {P : Nat → Nat → Int32} {st : Nat → Int32} (hJ : q_J n i P st) (hu : u < n) (hn : n ≤ 28) : ix (st u) ≤ u ∧ st u = nI (ix (st u)) ∧ q_shp P u (ix (st u)) := by
  obtain ⟨j, h1, h2, h3, -⟩ := hJ.2 u hu
  rw [h2, ix_nI (by omega)]
  exact ⟨h1, rfl, h3⟩
/-- an argument's stand-in: an argument again, of the same shape -/
theorem q_J_ar {n i v : Nat} {P : Nat → Nat → Int32} {st : Nat → Int32} {x y : Int32} (hJ : q_J n i P st) (hv : v < n) (hn : n ≤ 28) (hx : q_arg x v) (hy : y = if x = -1 then -1 else st (ix x)) :
    q_arg y v ∧ (x = -1 ↔ y = -1) ∧ (¬ x = -1 → q_shp P (ix x) (ix y)) := by
  by_cases e : x = -1
  · rw [if_pos e] at hy
    exact ⟨Or.inl hy, ⟨fun _ => hy, fun _ => e⟩, fun q => absurd e q⟩
  · rw [if_neg e] at hy
    obtain ⟨g1, g2⟩ := hx.ix e (by omega)
    obtain ⟨a1, a2, a3⟩ := q_J_st hJ (u := ix x) (by omega) hn
    refine ⟨Or.inr ⟨ix (st (ix x)), by omega, by rw [hy]; exact a2⟩, ⟨fun q => absurd q e, fun q => ?_⟩, fun _ => by rw [hy]; exact a3⟩
    rw [hy, a2] at q
    exact absurd q (nI_m1 (by omega))
theorem q_rep_ok {n i v : Nat} {P : Nat → Nat → Int32} {st : Nat → Int32} (hJ : q_J n i P st) (hv : v < n) (hn : n ≤ 28) : q_ok (q_rep st P v) v := by
  obtain ⟨⟨h3, h4, hq3, hq4⟩, hc, hk, hd1, hd2⟩ := hJ.1 v hv
  obtain ⟨b1, b2, b3⟩ := q_J_ar hJ hv hn h3 (y := q_r3 st P v) rfl
  obtain ⟨c1, c2, c3⟩ := q_J_ar hJ hv hn h4 (y := q_r4 st P v) rfl
  have e0 : q_rep st P v v 0 = P v 0 := q_rep_o (Or.inr ⟨by decide, by decide⟩)
  have e1 : ∀ u, q_rep st P v u 1 = P u 1 := fun u => q_rep_o (Or.inr ⟨by decide, by decide⟩)
  have e2 : ∀ u, q_rep st P v u 2 = P u 2 := fun u => q_rep_o (Or.inr ⟨by decide, by decide⟩)
  have e5 : q_rep st P v v 5 = P v 5 := q_rep_o (Or.inr ⟨by decide, by decide⟩)
  have e6 : q_rep st P v v 6 = P v 6 := q_rep_o (Or.inr ⟨by decide, by decide⟩)
  unfold q_ok q_bas q_com
  rw [e0, e1, e2, e5, e6, e1, e2, e1, e2, q_rep_3, q_rep_4]
  unfold q_com at hc
  by_cases hs : q_sw st P v
  · rw [if_pos hs, if_pos hs]
    have n4 : ¬ P v 4 = -1 := hq4 (by grind)
    have n3 : ¬ P v 3 = -1 := hq3 (by rcases hs.1 with q | q | q <;> exact k2_of _ q (by decide))
    have s3 := b3 n3
    have s4 := c3 n4
    refine ⟨⟨c1, b1, fun _ q => n4 (c2.mpr q), fun _ q => n3 (b2.mpr q)⟩, ?_, hk, hd1, hd2⟩
    rw [← s3.1, ← s3.2, ← s4.1, ← s4.2]
    unfold q_fit at hc ⊢
    have hks := hs.1
    refine ⟨fun h => ⟨(hc.1 h).2, (hc.1 h).1⟩, ?_, ?_, ?_, ?_, ?_, ?_, ?_, ?_⟩ <;> intro h <;> exfalso <;> rw [h] at hks <;> revert hks <;> decide
  · rw [if_neg hs, if_neg hs]
    refine ⟨⟨b1, c1, fun h q => hq3 h (b2.mpr q), fun h q => hq4 h (c2.mpr q)⟩, ?_, hk, hd1, hd2⟩
    by_cases n3 : P v 3 = -1
    · have hk2 : ¬ 2 < P v 0 := fun h => hq3 h n3
      have hno : ∀ j : Int32, (2 : Int32) < j → ¬ P v 0 = j := fun j hj q => hk2 (q ▸ hj)
      refine ⟨fun h => ?_, fun h => ?_, fun h => ?_, fun h => ?_, fun h => ?_, fun h => ?_, fun h => ?_, fun h => ?_, hc.2.2.2.2.2.2.2.2⟩
      · rcases h with h | h | h <;> exact absurd h (hno _ (by decide))
      all_goals exact absurd h (hno _ (by decide))
    · have s3 := b3 n3
      rw [← s3.1, ← s3.2]
      by_cases n4 : P v 4 = -1
      · have h34 : ¬ (P v 0 = 3 ∨ P v 0 = 4 ∨ P v 0 = 5 ∨ P v 0 = 8) := fun h => hq4 h n4
        exact ⟨fun h => absurd h (fun q => h34 (by grind)), hc.2.1, hc.2.2.1, fun h => absurd h (fun q => h34 (by grind)), hc.2.2.2.2.1, hc.2.2.2.2.2.1, hc.2.2.2.2.2.2.1, hc.2.2.2.2.2.2.2.1, hc.2.2.2.2.2.2.2.2⟩
      · have s4 := c3 n4
        rw [← s4.1, ← s4.2]
        exact hc
theorem q_rep_J {n i v : Nat} {P : Nat → Nat → Int32} {st : Nat → Int32} (hJ : q_J n i P st) (hv : v < n) (hn : n ≤ 28) : q_J n i (q_rep st P v) st := by
  have e1 : ∀ u, q_rep st P v u 1 = P u 1 := fun u => q_rep_o (Or.inr ⟨by decide, by decide⟩)
  have e2 : ∀ u, q_rep st P v u 2 = P u 2 := fun u => q_rep_o (Or.inr ⟨by decide, by decide⟩)
  refine ⟨fun u hu => ?_, fun u hu => ?_⟩
  · by_cases e : u = v
    · subst e
      exact q_rep_ok hJ hu hn
    · have h := hJ.1 u hu
      unfold q_ok q_bas q_com at h ⊢
      rw [e1, e2, e1, e2, e1, e2, q_rep_o (Or.inl e), q_rep_o (Or.inl e), q_rep_o (Or.inl e), q_rep_o (Or.inl e), q_rep_o (Or.inl e)]
      exact h
  · obtain ⟨j, h1, h2, h3, h4⟩ := hJ.2 u hu
    exact ⟨j, h1, h2, by unfold q_shp at h3 ⊢; rw [e1, e1, e2, e2]; exact h3, h4⟩
