/-! ===== a step of simplifying keeps the tables well formed ===== -/
theorem q_spt_o {P : Nat → Nat → Int32} {v u k : Nat} {x : Int32} (h : u ≠ v ∨ k = 1 ∨ k = 2) : q_spt P v x u k = P u k := by
  unfold q_spt up2
  grind
theorem q_spt_v {P : Nat → Nat → Int32} {v : Nat} {x : Int32} : q_spt P v x v 0 = 1 ∧ q_spt P v x v 3 = -1 ∧ q_spt P v x v 4 = -1 ∧ q_spt P v x v 5 = x ∧ q_spt P v x v 6 = 0 := by
  unfold q_spt up2
  simp
theorem q_tab_o {P : Nat → Nat → Int32} {v u k : Nat} (h : u ≠ v ∨ k = 1 ∨ k = 2) : q_tab P v u k = P u k := by
  unfold q_tab
  split
  · exact q_spt_o h
  · split
    · exact q_spt_o h
    · split
      · rcases h with h | h | h
        · exact up2_i h
        · exact up2_k (by omega)
        · exact up2_k (by omega)
      · rfl
theorem q_dim_pos {x : Int32} (h : q_dim x) : 1 ≤ ix x ∧ ix x ≤ 4 ∧ x = nI (ix x) := by
  obtain ⟨r, a, b, e⟩ := h
  rw [e, ix_nI (by omega)]
  exact ⟨a, b, rfl⟩
/-- rule 5: what is inside -/
theorem q_twi_ar {n v : Nat} {P : Nat → Nat → Int32} (hP : ∀ u, u < n → q_ok P u) (hv : v < n) (hn : n ≤ 28) (h : ¬ q_twi P v = -1) : q_tw (P v 0) ∧ P (ix (P v 3)) 0 = P v 0 ∧ q_twi P v = P (ix (P v 3)) 3 ∧ ix (P v 3) < v ∧ ∃ j, j < ix (P v 3) ∧ q_twi P v = nI j := by
  unfold q_twi at h ⊢
  by_cases h1 : q_tw (P v 0)
  · rw [if_pos h1] at h ⊢
    by_cases h2 : P (ix (P v 3)) 0 = P v 0
    · rw [if_pos h2] at h ⊢
      obtain ⟨⟨b1, -, b3, -⟩, -⟩ := hP v hv
      have n3 : ¬ P v 3 = -1 := b3 (by rcases h1 with q | q | q <;> exact k2_of _ q (by decide))
      obtain ⟨g1, g2⟩ := b1.ix n3 (by omega)
      obtain ⟨⟨c1, -⟩, -⟩ := hP (ix (P v 3)) (by omega)
      obtain ⟨j, hj, ej⟩ := c1.resolve_left h
      exact ⟨h1, h2, rfl, g1, j, hj, ej⟩
    · rw [if_neg h2] at h
      exact absurd rfl h
  · rw [if_neg h1] at h
    exact absurd rfl h
/-- rule 5 of NEG and TURN keeps the shape: only a FLAT may have another -/
theorem q_twi_11 {n v : Nat} {P : Nat → Nat → Int32} (hP : ∀ u, u < n → q_ok P u) (hv : v < n) (hn : n ≤ 28) (h : ¬ q_twi P v = -1) : (P v 0 = 6 ∨ P v 0 = 7 → q_shp P v (ix (q_twi P v))) ∧ (P v 0 = 11 → P (ix (q_twi P v)) 1 * P (ix (q_twi P v)) 2 = P v 1 * P v 2) := by
  obtain ⟨h1, h2, h3, h4, -⟩ := q_twi_ar hP hv hn h
  have cv := (hP v hv).2.1
  have ca := (hP (ix (P v 3)) (by omega)).2.1
  unfold q_com q_fit at cv ca
  rw [h2] at ca
  rw [h3]
  refine ⟨fun hk => ?_, fun hk => ?_⟩
  · rcases hk with hk | hk
    · have a := cv.2.1 hk
      have b := ca.2.1 hk
      exact ⟨a.1.trans b.1, a.2.trans b.2⟩
    · have a := cv.2.2.1 hk
      have b := ca.2.2.1 hk
      exact ⟨a.1.trans b.2, a.2.trans b.1⟩
  · exact (ca.2.2.2.2.2.2.1 hk).trans (cv.2.2.2.2.2.2.1 hk)
theorem q_neut_ar {n v : Nat} {P : Nat → Nat → Int32} (hP : ∀ u, u < n → q_ok P u) (hv : v < n) (hn : n ≤ 28) (h : ¬ q_neut P v = -1) : ∃ j, j < v ∧ q_neut P v = nI j ∧ q_shp P v j := by
  obtain ⟨⟨b1, b2, b3, b4⟩, hc, -⟩ := hP v hv
  unfold q_com q_fit at hc
  unfold q_neut at h ⊢
  by_cases h1 : q_res (P v 0)
  · rw [if_pos h1] at h ⊢
    by_cases h2 : q_shp P v (ix (P v 3))
    · rw [if_pos h2] at h ⊢
      obtain ⟨g1, g2⟩ := b1.ix h (by omega)
      exact ⟨_, g1, g2, h2⟩
    · rw [if_neg h2] at h
      exact absurd rfl h
  · rw [if_neg h1] at h ⊢
    by_cases h2 : ¬ (P v 0 = 3 ∨ P v 0 = 4)
    · rw [if_pos h2] at h
      exact absurd rfl h
    · rw [if_neg h2] at h ⊢
      have hk : P v 0 = 3 ∨ P v 0 = 4 ∨ P v 0 = 5 := by grind
      obtain ⟨s3, s4⟩ := hc.1 hk
      generalize (if P v 0 = 3 then (0 : Int32) else 1) = z at h ⊢
      by_cases h3 : q_spl P (P v 3) z
      · rw [if_pos h3] at h ⊢
        obtain ⟨g1, g2⟩ := b2.ix h (by omega)
        exact ⟨_, g1, g2, s4⟩
      · rw [if_neg h3] at h ⊢
        by_cases h4 : q_spl P (P v 4) z
        · rw [if_pos h4] at h ⊢
          obtain ⟨g1, g2⟩ := b1.ix h (by omega)
          exact ⟨_, g1, g2, s3⟩
        · rw [if_neg h4] at h
          exact absurd rfl h
theorem q_alr_or {st : Nat → Int32} {P : Nat → Nat → Int32} {v : Nat} : ∀ (j i : Nat), q_alr st P v j i = v ∨ (i ≤ q_alr st P v j i ∧ q_alr st P v j i < i + j ∧ st (q_alr st P v j i) = nI (q_alr st P v j i) ∧ q_like P (q_alr st P v j i) v) := by
  intro j
  induction j with
  | zero => intro i; exact Or.inl rfl
  | succ j ih =>
    intro i
    unfold q_alr
    by_cases h : st i = nI i ∧ q_like P i v
    · rw [if_pos h]
      exact Or.inr ⟨Nat.le_refl _, by omega, h.1, h.2⟩
    · rw [if_neg h]
      rcases ih (i + 1) with q | ⟨q1, q2, q3⟩
      · exact Or.inl q
      · exact Or.inr ⟨by omega, by omega, q3⟩
theorem q_al_or (st : Nat → Int32) (P : Nat → Nat → Int32) (v : Nat) : q_al st P v = v ∨ (q_al st P v < v ∧ st (q_al st P v) = nI (q_al st P v) ∧ q_like P (q_al st P v) v) := by
  rcases q_alr_or (st := st) (P := P) (v := v) v 0 with q | ⟨-, q2, q3⟩
  · exact Or.inl q
  · exact Or.inr ⟨by unfold q_al; omega, q3⟩
theorem q_rul_le (P : Nat → Nat → Int32) (v : Nat) : q_rul P v ≤ 5 := by
  unfold q_rul
  grind
theorem q_rul5 {P : Nat → Nat → Int32} {v : Nat} (h : q_rul P v = 5) : ¬ q_twi P v = -1 := by
  unfold q_rul at h
  grind
theorem q_rul4 {P : Nat → Nat → Int32} {v : Nat} (h : q_rul P v = 4) : q_z4 P v := by
  unfold q_rul at h
  grind
theorem q_rul2 {P : Nat → Nat → Int32} {v : Nat} (h : q_rul P v = 2) : ¬ q_neut P v = -1 := by
  unfold q_rul at h
  grind
theorem q_dir_ar {n v : Nat} {P : Nat → Nat → Int32} (hP : ∀ u, u < n → q_ok P u) (hv : v < n) (hn : n ≤ 28) (h : ¬ q_dir P v = -1) : ∃ j, j < v ∧ q_dir P v = nI j ∧ q_shp P v j := by
  unfold q_dir at h ⊢
  by_cases h2 : q_rul P v = 2
  · rw [if_pos h2] at h ⊢
    exact q_neut_ar hP hv hn h
  · rw [if_neg h2] at h ⊢
    by_cases h4 : q_rul P v = 4
    · rw [if_pos h4] at h ⊢
      obtain ⟨⟨b1, -⟩, hc, -⟩ := hP v hv
      unfold q_com q_fit at hc
      obtain ⟨g1, g2⟩ := b1.ix h (by omega)
      exact ⟨_, g1, g2, (hc.1 (Or.inr (Or.inr (q_rul4 h4).1))).1⟩
    · rw [if_neg h4] at h ⊢
      by_cases h5 : q_rul P v = 5 ∧ q_shp P v (ix (q_twi P v))
      · rw [if_pos h5] at h ⊢
        obtain ⟨-, -, -, g, j, hj, ej⟩ := q_twi_ar hP hv hn h
        refine ⟨j, by omega, ej, ?_⟩
        have := h5.2
        rw [ej, ix_nI (by omega)] at this
        exact this
      · rw [if_neg h5] at h
        exact absurd rfl h
theorem q_tab_ok {n v : Nat} {P : Nat → Nat → Int32} (hP : ∀ u, u < n → q_ok P u) (hv : v < n) (hn : n ≤ 28) : q_ok (q_tab P v) v := by
  have e1 : ∀ u, q_tab P v u 1 = P u 1 := fun u => q_tab_o (Or.inr (Or.inl rfl))
  have e2 : ∀ u, q_tab P v u 2 = P u 2 := fun u => q_tab_o (Or.inr (Or.inr rfl))
  have h0 := hP v hv
  have spl : ∀ x : Int32, q_tab P v = q_spt P v x → q_ok (q_tab P v) v := fun x hx => by
    obtain ⟨a0, a3, a4, a5, a6⟩ := q_spt_v (P := P) (v := v) (x := x)
    unfold q_ok q_bas q_com
    rw [e1, e2, hx, a0, a3, a4]
    exact ⟨⟨Or.inl rfl, Or.inl rfl, fun h => absurd h (by decide), fun h => absurd h (by decide)⟩, q_fit1, ⟨1, by omega, rfl⟩, h0.2.2.2.1, h0.2.2.2.2⟩
  by_cases r1 : q_rul P v = 1
  · exact spl _ (by unfold q_tab; rw [if_pos r1])
  · by_cases r3 : q_rul P v = 3
    · exact spl _ (by unfold q_tab; rw [if_neg r1, if_pos r3])
    · by_cases r5 : q_rul P v = 5 ∧ ¬ q_shp P v (ix (q_twi P v))
      · have ht : q_tab P v = up2 P v 3 (q_twi P v) := by unfold q_tab; rw [if_neg r1, if_neg r3, if_pos r5]
        have hne := q_rul5 r5.1
        obtain ⟨k1, k2, k3, k4, j, hj, ej⟩ := q_twi_ar hP hv hn hne
        obtain ⟨k6, k11⟩ := q_twi_11 hP hv hn hne
        have hk : P v 0 = 11 := by
          rcases k1 with q | q | q
          · exact absurd (k6 (Or.inl q)) r5.2
          · exact absurd (k6 (Or.inr q)) r5.2
          · exact q
        obtain ⟨⟨b1, b2, b3, b4⟩, hc, hkd, hd1, hd2⟩ := h0
        unfold q_ok q_bas q_com
        rw [e1, e2, e1, e2, e1, e2, ht, up2_eq, up2_k (by decide), up2_k (by decide), up2_k (by decide), up2_k (by decide), hk]
        refine ⟨⟨Or.inr ⟨j, by omega, ej⟩, b2, fun _ => hne, fun h => absurd h (by decide)⟩, ?_, ⟨11, by omega, rfl⟩, hd1, hd2⟩
        exact ⟨fun h => absurd h (by decide), fun h => absurd h (by decide), fun h => absurd h (by decide), fun h => absurd h (by decide), fun h => absurd h (by decide), fun h => absurd h (by decide), fun _ => k11 hk, fun h => absurd h (by decide), fun h => absurd h (by decide)⟩
      · have ht : q_tab P v = P := by unfold q_tab; rw [if_neg r1, if_neg r3, if_neg r5]
        rw [ht]
        exact h0
theorem q_tab_J {n v : Nat} {P : Nat → Nat → Int32} {st : Nat → Int32} (hJ : q_J n v P st) (hv : v < n) (hn : n ≤ 28) : q_J n (v + 1) (q_tab P v) (upd st v (q_std st P v)) := by
  have e1 : ∀ u, q_tab P v u 1 = P u 1 := fun u => q_tab_o (Or.inr (Or.inl rfl))
  have e2 : ∀ u, q_tab P v u 2 = P u 2 := fun u => q_tab_o (Or.inr (Or.inr rfl))
  refine ⟨fun u hu => ?_, fun u hu => ?_⟩
  · by_cases e : u = v
    · subst e
      exact q_tab_ok hJ.1 hu hn
    · have h := hJ.1 u hu
      unfold q_ok q_bas q_com at h ⊢
      rw [e1, e2, e1, e2, e1, e2, q_tab_o (Or.inl e), q_tab_o (Or.inl e), q_tab_o (Or.inl e), q_tab_o (Or.inl e), q_tab_o (Or.inl e)]
      exact h
  · by_cases e : u = v
    · subst e
      rw [upd_eq]
      unfold q_std
      by_cases hd : q_dir P u = -1
      · rw [if_pos hd]
        rcases q_al_or st (q_tab P u) u with q | ⟨q1, q2, q3⟩
        · exact ⟨u, Nat.le_refl _, by rw [q], ⟨rfl, rfl⟩, fun h => by omega⟩
        · exact ⟨q_al st (q_tab P u) u, by omega, rfl, ⟨q3.2.2.2.2.2.1.symm, q3.2.2.2.2.2.2.symm⟩, fun h => by omega⟩
      · rw [if_neg hd]
        obtain ⟨j, h1, h2, h3⟩ := q_dir_ar hJ.1 hu hn hd
        exact ⟨j, by omega, h2, by unfold q_shp; rw [e1, e1, e2, e2]; exact h3, fun h => by omega⟩
    · rw [upd_ne e]
      obtain ⟨j, h1, h2, h3, h4⟩ := hJ.2 u hu
      exact ⟨j, h1, h2, by unfold q_shp; rw [e1, e1, e2, e2]; exact h3, fun h => h4 (by omega)⟩
theorem q_s_J {n v : Nat} {P : Nat → Nat → Int32} {st : Nat → Int32} (hJ : q_J n v P st) (hv : v < n) (hn : n ≤ 28) : q_J n (v + 1) (q_sP st P v) (upd st v (q_sx st P v)) := q_tab_J (q_rep_J hJ hv hn) hv hn
