/-! ===== what holds between two calls of a script ===== -/
theorem q_fit_b {κ p q r c ra ca rb cb rb' cb' : Int32} (h : ¬ (κ = 3 ∨ κ = 4 ∨ κ = 5 ∨ κ = 8)) (hf : q_fit κ p q r c ra ca rb cb) : q_fit κ p q r c ra ca rb' cb' :=
  ⟨fun z => absurd (by rcases z with z | z | z <;> simp [z]) h, hf.2.1, hf.2.2.1, fun z => absurd (Or.inr (Or.inr (Or.inr z))) h, hf.2.2.2.2⟩
theorem q_fit_s {κ p q r c ra ca rb cb : Int32} (h : ¬ 2 < κ) (h0 : κ = 0 → ∃ p0 : Nat, p0 < 4 ∧ p = nI p0) : q_fit κ p q r c ra ca rb cb := by
  refine ⟨fun z => absurd ?_ h, fun z => absurd ?_ h, fun z => absurd ?_ h, fun z => absurd ?_ h, fun z => absurd ?_ h, fun z => absurd ?_ h, fun z => absurd ?_ h, fun z => absurd ?_ h, h0⟩
  · rcases z with z | z | z <;> rw [z] <;> decide
  all_goals rw [z]; decide
theorem q_ok_cg {P R : Nat → Nat → Int32} {v : Nat} (hv : v ≤ 28) (h : ∀ u, u ≤ v → ∀ k, k < 7 → R u k = P u k) (hP : q_ok P v) : q_ok R v := by
  obtain ⟨⟨b1, b2, b3, b4⟩, hc, hk, hd1, hd2⟩ := hP
  have e0 := h v (Nat.le_refl v) 0 (by omega)
  have e1 := h v (Nat.le_refl v) 1 (by omega)
  have e2 := h v (Nat.le_refl v) 2 (by omega)
  have e3 := h v (Nat.le_refl v) 3 (by omega)
  have e4 := h v (Nat.le_refl v) 4 (by omega)
  have e5 := h v (Nat.le_refl v) 5 (by omega)
  have e6 := h v (Nat.le_refl v) 6 (by omega)
  have a3 : 2 < P v 0 → ∀ k, k < 7 → R (ix (P v 3)) k = P (ix (P v 3)) k := fun q k hk => h _ (Nat.le_of_lt (b1.ix (b3 q) hv).1) k hk
  have a4 : (P v 0 = 3 ∨ P v 0 = 4 ∨ P v 0 = 5 ∨ P v 0 = 8) → ∀ k, k < 7 → R (ix (P v 4)) k = P (ix (P v 4)) k := fun q k hk => h _ (Nat.le_of_lt (b2.ix (b4 q) hv).1) k hk
  refine ⟨⟨by rw [e3]; exact b1, by rw [e4]; exact b2, by rw [e0, e3]; exact b3, by rw [e0, e4]; exact b4⟩, ?_, by rw [e0]; exact hk, by rw [e1]; exact hd1, by rw [e2]; exact hd2⟩
  unfold q_com at hc ⊢
  rw [e0, e1, e2, e3, e4, e5, e6]
  by_cases q : 2 < P v 0
  · rw [a3 q 1 (by omega), a3 q 2 (by omega)]
    by_cases q4 : P v 0 = 3 ∨ P v 0 = 4 ∨ P v 0 = 5 ∨ P v 0 = 8
    · rw [a4 q4 1 (by omega), a4 q4 2 (by omega)]
      exact hc
    · exact q_fit_b q4 hc
  · exact q_fit_s q hc.2.2.2.2.2.2.2.2
theorem q_new_v {A : Nat → Nat → Int32} {n : Nat} {κ a b p q x y : Int32} : q_new A n κ a b p q x y n 0 = κ ∧ q_new A n κ a b p q x y n 1 = x ∧ q_new A n κ a b p q x y n 2 = y ∧ q_new A n κ a b p q x y n 3 = a ∧ q_new A n κ a b p q x y n 4 = b ∧ q_new A n κ a b p q x y n 5 = p ∧ q_new A n κ a b p q x y n 6 = q := by
  refine ⟨?_, ?_, ?_, ?_, ?_, ?_, ?_⟩ <;> simp [q_new, q_bec, up2]
theorem q_new_u {A : Nat → Nat → Int32} {n u k : Nat} {κ a b p q x y : Int32} (h : u ≠ n) : q_new A n κ a b p q x y u k = A u k := by
  simp [q_new, q_bec, up2, h]
theorem q_new_s {A : Nat → Nat → Int32} {n : Nat} {κ p q x y : Int32} (h : ¬ 2 < κ) (h0 : κ = 0 → ∃ p0 : Nat, p0 < 4 ∧ p = nI p0) (hk : q_kind κ) (hx : q_dim x) (hy : q_dim y) : q_ok (q_new A n κ (-1) (-1) p q x y) n := by
  obtain ⟨e0, e1, e2, e3, e4, e5, e6⟩ := q_new_v (A := A) (n := n) (κ := κ) (a := -1) (b := -1) (p := p) (q := q) (x := x) (y := y)
  refine ⟨⟨by rw [e3]; exact Or.inl rfl, by rw [e4]; exact Or.inl rfl, by rw [e0]; exact fun z => absurd z h, ?_⟩, ?_, by rw [e0]; exact hk, by rw [e1]; exact hx, by rw [e2]; exact hy⟩
  · rw [e0]
    intro z
    refine absurd ?_ h
    rcases z with z | z | z | z <;> rw [z] <;> decide
  · unfold q_com
    rw [e0, e5]
    exact q_fit_s h h0
theorem q_new_a {A : Nat → Nat → Int32} {n a : Nat} {κ b p q x y : Int32} (hn : n < 28) (ha : a < n) (hb : b = -1 ∨ ∃ j, j < n ∧ b = nI j) (h4 : (κ = 3 ∨ κ = 4 ∨ κ = 5 ∨ κ = 8) → ¬ b = -1) (hk : q_kind κ) (hx : q_dim x) (hy : q_dim y)
    (hf : q_fit κ p q x y (A a 1) (A a 2) (A (ix b) 1) (A (ix b) 2)) : q_ok (q_new A n κ (nI a) b p q x y) n := by
  obtain ⟨e0, e1, e2, e3, e4, e5, e6⟩ := q_new_v (A := A) (n := n) (κ := κ) (a := nI a) (b := b) (p := p) (q := q) (x := x) (y := y)
  have hm1 : ¬ nI a = -1 := nI_m1 (by omega)
  refine ⟨⟨by rw [e3]; exact Or.inr ⟨a, ha, rfl⟩, by rw [e4]; exact hb, by rw [e0, e3]; exact fun _ => hm1, by rw [e0, e4]; exact h4⟩, ?_, by rw [e0]; exact hk, by rw [e1]; exact hx, by rw [e2]; exact hy⟩
  unfold q_com
  rw [e0, e1, e2, e3, e4, e5, e6, ix_nI (by omega), q_new_u (by omega), q_new_u (by omega)]
  by_cases q4 : κ = 3 ∨ κ = 4 ∨ κ = 5 ∨ κ = 8
  · have hb2 : ix b ≠ n := by
      rcases hb with z | ⟨j, hj, z⟩
      · exact absurd z (h4 q4)
      · rw [z, ix_nI (by omega)]
        omega
    rw [q_new_u hb2, q_new_u hb2]
    exact hf
  · exact q_fit_b q4 hf
theorem q_rg {x : Int32} {a b : Nat} (hb : b < 1000) (h0 : ¬ x < nI a) (h1 : ¬ nI b < x) (ha : a ≤ 1000) : ∃ k, a ≤ k ∧ k ≤ b ∧ x = nI k := by
  have t0 : ¬ x.toInt < a := fun z => h0 (Int32.lt_iff_toInt_lt.mpr (by rw [nI_toInt (by omega)]; exact z))
  rcases pk_ix x (n := b + 1) (by omega) with z | z | ⟨j, hj, e⟩
  · have z1 := Int32.lt_iff_toInt_lt.mp z
    have z2 : (0 : Int32).toInt = 0 := by decide
    exact absurd (by omega) t0
  · exact absurd (Int32.lt_iff_toInt_lt.mpr (by
      have := Int32.le_iff_toInt_le.mp z
      rw [nI_toInt (by omega)] at this
      rw [nI_toInt (by omega)]
      omega) : nI b < x) h1
  · refine ⟨j, ?_, by omega, e⟩
    rw [e, nI_toInt (by omega)] at t0
    omega
theorem q_dim_of {x : Int32} (h0 : ¬ x < 1) (h1 : ¬ 4 < x) : q_dim x := q_rg (a := 1) (b := 4) (by omega) h0 h1 (by omega)
theorem q_src_ok {A : Nat → Nat → Int32} {n : Nat} {κ x y p : Int32} (h : q_srcOk κ x y p) : q_ok (q_new A n κ (-1) (-1) p 0 x y) n := by
  obtain ⟨k0, k1, ⟨s1, s2, s3, s4⟩, hs⟩ := h
  obtain ⟨k, -, hk, ek⟩ := q_rg (a := 0) (b := 2) (by omega) k0 k1 (by omega)
  refine q_new_s k1 (fun z => ?_) ⟨k, by omega, ek⟩ (q_dim_of s1 s2) (q_dim_of s3 s4)
  rcases hs with q | ⟨q1, ⟨q2, q3⟩ | ⟨q2, q3⟩⟩
  · rw [z] at q
    exact absurd q (by decide)
  · exact q_ix4 q1 q3
  · exact absurd z q2
theorem q_op_ok {A : Nat → Nat → Int32} {n a b : Nat} {κ xa xb p : Int32} (hA : ∀ v, v < n → q_ok A v) (hn : n < 28) (ha : a < n) (hb : b < n) (ea : xa = nI a) (eb : xb = nI b) (h : q_opOk n κ xa xb p) (hf : q_opFit A κ a b) : q_ok (q_new A n κ xa (if q_one κ then -1 else xb) p 0 (q_opR A κ p a) (q_opC A κ p a b)) n := by
  obtain ⟨k0, k1, -, -, ho, hp0, hp1⟩ := h
  obtain ⟨k, hk3, hk9, ek⟩ := q_rg (a := 3) (b := 9) (by omega) k0 k1 (by omega)
  have hd1 := (hA a ha).2.2.2.1
  have hd2 := (hA a ha).2.2.2.2
  have hd4 := (hA b hb).2.2.2.2
  have d1 : q_dim 1 := ⟨1, by omega, by omega, rfl⟩
  subst ea
  subst eb
  have hab : q_one κ → a = b := fun z => (nI_inj (by omega) (by omega) (ho z)).symm
  have hp : κ = 9 → p = 0 ∨ p = 1 := fun z => by
    rw [if_pos z] at hp1
    obtain ⟨j, hj, hj1, ej⟩ := q_rg (x := p) (a := 0) (b := 1) (by omega) hp0 (Int32.not_lt.mpr hp1) (by omega)
    obtain rfl | rfl : j = 0 ∨ j = 1 := by omega
    · exact Or.inl ej
    · exact Or.inr ej
  have kd : q_kind κ := ⟨k, by omega, ek⟩
  have hm1 : ¬ nI b = -1 := nI_m1 (by omega)
  have hbx : ix (nI b) = b := ix_nI (by omega)
  refine q_new_a hn ha ?_ ?_ kd ?_ ?_ ?_
  · by_cases z : q_one κ
    · rw [if_pos z]
      exact Or.inl rfl
    · rw [if_neg z]
      exact Or.inr ⟨b, hb, rfl⟩
  · intro z
    rw [if_neg (by rcases z with z | z | z | z <;> rw [z] <;> decide)]
    exact hm1
  · unfold q_opR
    grind
  · unfold q_opC
    grind
  · obtain rfl | rfl | rfl | rfl | rfl | rfl | rfl : k = 3 ∨ k = 4 ∨ k = 5 ∨ k = 6 ∨ k = 7 ∨ k = 8 ∨ k = 9 := by omega
    · have e : κ = 3 := ek
      subst e
      rw [if_neg (by decide), hbx]
      rcases hf with z | ⟨-, z1, z2⟩
      · exact absurd z.1 (by decide)
      · exact ⟨fun _ => ⟨⟨rfl, z2.symm⟩, z1, rfl⟩, fun z => absurd z (by decide), fun z => absurd z (by decide), fun z => absurd z (by decide), fun z => absurd z (by decide), fun z => absurd z (by decide), fun z => absurd z (by decide), fun z => absurd z (by decide), fun z => absurd z (by decide)⟩
    · have e : κ = 4 := ek
      subst e
      rw [if_neg (by decide), hbx]
      rcases hf with z | ⟨-, z1, z2⟩
      · exact absurd z.1 (by decide)
      · exact ⟨fun _ => ⟨⟨rfl, z2.symm⟩, z1, rfl⟩, fun z => absurd z (by decide), fun z => absurd z (by decide), fun z => absurd z (by decide), fun z => absurd z (by decide), fun z => absurd z (by decide), fun z => absurd z (by decide), fun z => absurd z (by decide), fun z => absurd z (by decide)⟩
    · have e : κ = 5 := ek
      subst e
      rw [if_neg (by decide), hbx]
      rcases hf with z | ⟨-, z1, z2⟩
      · exact absurd z.1 (by decide)
      · exact ⟨fun _ => ⟨⟨rfl, z2.symm⟩, z1, rfl⟩, fun z => absurd z (by decide), fun z => absurd z (by decide), fun z => absurd z (by decide), fun z => absurd z (by decide), fun z => absurd z (by decide), fun z => absurd z (by decide), fun z => absurd z (by decide), fun z => absurd z (by decide)⟩
    · have e : κ = 6 := ek
      subst e
      have eab := hab (Or.inl rfl)
      subst eab
      exact ⟨fun z => absurd z (by decide), fun _ => ⟨rfl, rfl⟩, fun z => absurd z (by decide), fun z => absurd z (by decide), fun z => absurd z (by decide), fun z => absurd z (by decide), fun z => absurd z (by decide), fun z => absurd z (by decide), fun z => absurd z (by decide)⟩
    · have e : κ = 7 := ek
      subst e
      exact ⟨fun z => absurd z (by decide), fun z => absurd z (by decide), fun _ => ⟨rfl, rfl⟩, fun z => absurd z (by decide), fun z => absurd z (by decide), fun z => absurd z (by decide), fun z => absurd z (by decide), fun z => absurd z (by decide), fun z => absurd z (by decide)⟩
    · have e : κ = 8 := ek
      subst e
      rw [if_neg (by decide), hbx]
      rcases hf with ⟨-, z⟩ | ⟨z, -⟩
      · exact ⟨fun z => absurd z (by decide), fun z => absurd z (by decide), fun z => absurd z (by decide), fun _ => ⟨rfl, rfl, z⟩, fun z => absurd z (by decide), fun z => absurd z (by decide), fun z => absurd z (by decide), fun z => absurd z (by decide), fun z => absurd z (by decide)⟩
      · exact absurd rfl z
    · have e : κ = 9 := ek
      subst e
      have eab := hab (Or.inr (Or.inr rfl))
      subst eab
      refine ⟨fun z => absurd z (by decide), fun z => absurd z (by decide), fun z => absurd z (by decide), fun z => absurd z (by decide), fun _ => ?_, fun z => absurd z (by decide), fun z => absurd z (by decide), fun z => absurd z (by decide), fun z => absurd z (by decide)⟩
      rcases hp rfl with rfl | rfl
      · exact Or.inl ⟨rfl, rfl, rfl⟩
      · exact Or.inr ⟨rfl, rfl, rfl⟩
theorem q_re_ok {A : Nat → Nat → Int32} {n a : Nat} {κ xa x y : Int32} (hn : n < 28) (ha : a < n) (ea : xa = nI a) (h : q_reOk n κ xa x y) (hf : q_reFit A κ x y a) : q_ok (q_new A n κ xa (-1) 0 0 x y) n := by
  obtain ⟨k0, k1, -, s1, s2, s3, s4⟩ := h
  obtain ⟨k, hk3, hk9, ek⟩ := q_rg (a := 10) (b := 11) (by omega) k0 k1 (by omega)
  subst ea
  refine q_new_a hn ha (Or.inl rfl) ?_ ⟨k, by omega, ek⟩ (q_dim_of s1 s2) (q_dim_of s3 s4) ?_
  · intro z
    exfalso
    rcases z with z | z | z | z <;> rw [z] at k0 <;> exact k0 (by decide)
  · obtain rfl | rfl : k = 10 ∨ k = 11 := by omega
    · have e : κ = 10 := ek
      subst e
      rcases hf with ⟨-, z⟩ | ⟨z, -⟩
      · exact ⟨fun z => absurd z (by decide), fun z => absurd z (by decide), fun z => absurd z (by decide), fun z => absurd z (by decide), fun z => absurd z (by decide), fun _ => z, fun z => absurd z (by decide), fun z => absurd z (by decide), fun z => absurd z (by decide)⟩
      · exact absurd rfl z
    · have e : κ = 11 := ek
      subst e
      rcases hf with ⟨z, -⟩ | ⟨-, z⟩
      · exact absurd z (by decide)
      · exact ⟨fun z => absurd z (by decide), fun z => absurd z (by decide), fun z => absurd z (by decide), fun z => absurd z (by decide), fun z => absurd z (by decide), fun z => absurd z (by decide), fun _ => z, fun z => absurd z (by decide), fun z => absurd z (by decide)⟩
theorem q_pa_ok {A : Nat → Nat → Int32} {n a : Nat} {xa p q x y : Int32} (hA : ∀ v, v < n → q_ok A v) (hn : n < 28) (ha : a < n) (ea : xa = nI a) (h : q_paOk n xa p q x y) (hf : q_paFit A p q x y a) : q_ok (q_new A n 12 xa (-1) p q x y) n := by
  obtain ⟨-, ⟨p1, p2, q1, q2⟩, s1, s2, s3, s4⟩ := h
  have dx := q_dim_of s1 s2
  have dy := q_dim_of s3 s4
  subst ea
  refine q_new_a hn ha (Or.inl rfl) (fun z => absurd z (by decide)) ⟨12, by omega, rfl⟩ dx dy ?_
  refine ⟨fun z => absurd z (by decide), fun z => absurd z (by decide), fun z => absurd z (by decide), fun z => absurd z (by decide), fun z => absurd z (by decide), fun z => absurd z (by decide), fun z => absurd z (by decide), fun _ => ?_, fun z => absurd z (by decide)⟩
  obtain ⟨p0, hp0, ep⟩ := q_ix4 p1 p2
  obtain ⟨q0, hq0, eq⟩ := q_ix4 q1 q2
  obtain ⟨r, hr1, hr2, er⟩ := (hA a ha).2.2.2.1
  obtain ⟨c, hc1, hc2, ec⟩ := (hA a ha).2.2.2.2
  obtain ⟨x0, hx1, hx2, ex⟩ := dx
  obtain ⟨y0, hy1, hy2, ey⟩ := dy
  obtain ⟨f1, f2⟩ := hf
  refine ⟨p0, q0, ep, eq, ?_, ?_⟩
  · rw [er, ep, ex, nI_add, nI_lt' (by omega) (by omega)] at f1
    rw [er, ex, ix_nI (by omega), ix_nI (by omega)]
    omega
  · rw [ec, eq, ey, nI_add, nI_le' (by omega) (by omega)] at f2
    rw [ec, ey, ix_nI (by omega), ix_nI (by omega)]
    omega
theorem q_new_all {A : Nat → Nat → Int32} {n : Nat} {κ a b p q x y : Int32} (hn : n < 28) (hA : ∀ v, v < n → q_ok A v) (h : q_ok (q_new A n κ a b p q x y) n) : ∀ v, v < n + 1 → q_ok (q_new A n κ a b p q x y) v := fun v hv => by
  rcases Nat.lt_or_ge v n with z | z
  · exact q_ok_cg (by omega) (fun u hu k _ => q_new_u (by omega)) (hA v z)
  · have e : v = n := by omega
    subst e
    exact h
def q_I (n : Nat) (A P : Nat → Nat → Int32) (st mk lv : Nat → Int32) (cl pr : Nat → Nat → Int32) (si wk : Int32) (pa ce wd : Nat → Int32) : Prop :=
  n ≤ 28 ∧ (∀ v, v < n → q_ok A v) ∧ q_sha n A P ∧ q_J n n P st ∧ (∀ v, n ≤ v → mk v = 0) ∧ (∀ u, u < n → lv u = q_lv n mk st P u) ∧ (si = 0 → (∀ i, i < n → ∀ k, k < 7 → P i k = A i k) ∧ ∀ i, i < n → st i = nI i) ∧ q_par pr pa ∧ (∀ v, v < n → (wd v = 0 ↔ wk = 0 ∨ lv v = 0)) ∧ (¬ wk = 0 → ∀ u, u < n → ¬ lv u = 0 → q_rel P cl ce u)
theorem q_I_undo {n : Nat} {A P T : Nat → Nat → Int32} {st S mk lv L : Nat → Int32} {cl pr : Nat → Nat → Int32} {pa ce wd W : Nat → Int32} (hn : n ≤ 28) (hA : ∀ v, v < n → q_ok A v) (hmk : ∀ v, n ≤ v → mk v = 0) (hpa : q_par pr pa) (hT : T = q_cpn n A P) (hS : S = q_idn n st) (hL : L = q_live n mk S T lv) (hW : W = q_wd0 n wd) : q_I n A T S mk L cl pr 0 0 pa ce W := by
  have h1 : ∀ i, i < n → ∀ k, k < 7 → T i k = A i k := fun i hi k hk => by rw [hT]; exact if_pos ⟨hi, hk⟩
  have h2 : ∀ i, i < n → S i = nI i := fun i hi => by rw [hS]; exact if_pos hi
  refine ⟨hn, hA, fun v hv => ⟨h1 v hv 1 (by omega), h1 v hv 2 (by omega)⟩, ⟨fun v hv => q_ok_cg (by omega) (fun u hu k hk => h1 u (by omega) k hk) (hA v hv), fun u hu => ⟨u, Nat.le_refl u, h2 u hu, ⟨rfl, rfl⟩, fun _ => rfl⟩⟩, hmk, fun u hu => by rw [hL]; exact q_live_lv hu, fun _ => ⟨h1, h2⟩, hpa, fun v hv => ⟨fun _ => Or.inl rfl, fun _ => by rw [hW]; exact if_pos hv⟩, fun z => absurd rfl z⟩
theorem q_run_sh : ∀ (j i : Nat) (P : Nat → Nat → Int32) (st us : Nat → Int32) (c : Nat) {T : Nat → Nat → Int32} {S U : Nat → Int32} {e : Nat}, q_run j i P st us c = (T, S, U, e) → ∀ v, T v 1 = P v 1 ∧ T v 2 = P v 2 := by
  intro j
  induction j with
  | zero =>
    intro i P st us c T S U e h v
    have h' : (P, st, us, c) = (T, S, U, e) := h
    cases h'
    exact ⟨rfl, rfl⟩
  | succ j ih =>
    intro i P st us c T S U e h v
    obtain ⟨h1, h2⟩ := ih _ _ _ _ _ h v
    refine ⟨h1.trans ((q_tab_o (Or.inr (Or.inl rfl))).trans (q_rep_o (Or.inr ⟨by decide, by decide⟩))), h2.trans ((q_tab_o (Or.inr (Or.inr rfl))).trans (q_rep_o (Or.inr ⟨by decide, by decide⟩)))⟩
theorem q_I.J0 {n : Nat} {A P : Nat → Nat → Int32} {st mk lv : Nat → Int32} {cl pr : Nat → Nat → Int32} {si wk : Int32} {pa ce wd : Nat → Int32} (h : q_I n A P st mk lv cl pr si wk pa ce wd) (hs : si = 0) : q_J n 0 P st :=
  ⟨h.2.2.2.1.1, fun u hu => ⟨u, Nat.le_refl u, (h.2.2.2.2.2.2.1 hs).2 u hu, ⟨rfl, rfl⟩, fun _ => rfl⟩⟩
theorem q_I.simp {n : Nat} {A P T : Nat → Nat → Int32} {st mk lv us S U L W : Nat → Int32} {cl pr : Nat → Nat → Int32} {si wk : Int32} {pa ce wd : Nat → Int32} {e : Nat} (h : q_I n A P st mk lv cl pr si wk pa ce wd) (hr : q_run n 0 P st us 0 = (T, S, U, e)) (hJ : q_J n n T S) (hL : L = q_live n mk S T lv) (hW : W = q_wd0 n wd) : q_I n A T S mk L cl pr 1 0 pa ce W := by
  obtain ⟨h1, h2, h3, h4, h5, h6, h7, h8, h9, h10⟩ := h
  have hsh := q_run_sh _ _ _ _ _ _ hr
  exact ⟨h1, h2, fun v hv => ⟨(hsh v).1.trans (h3 v hv).1, (hsh v).2.trans (h3 v hv).2⟩, hJ, h5, fun u hu => by rw [hL]; exact q_live_lv hu, fun z => absurd z (by decide), h8, fun v hv => ⟨fun _ => Or.inl rfl, fun _ => by rw [hW]; exact if_pos hv⟩, fun z => absurd rfl z⟩
theorem q_I.work {n : Nat} {A P : Nat → Nat → Int32} {st mk lv : Nat → Int32} {cl cl' pr : Nat → Nat → Int32} {si wk : Int32} {pa ce ce' wd : Nat → Int32} (h : q_I n A P st mk lv cl pr si wk pa ce wd) (hr : ∀ u, u < n → ¬ lv u = 0 → q_rel P cl' ce' u) : q_I n A P st mk lv cl' pr si 1 pa ce' (q_wd1 n lv wd) := by
  obtain ⟨h1, h2, h3, h4, h5, h6, h7, h8, h9, h10⟩ := h
  refine ⟨h1, h2, h3, h4, h5, h6, h7, h8, fun v hv => ?_, fun _ => hr⟩
  rw [show q_wd1 n lv wd v = if lv v = 0 then 0 else 1 from if_pos hv]
  by_cases z : lv v = 0
  · rw [if_pos z]
    exact ⟨fun _ => Or.inr z, fun _ => rfl⟩
  · rw [if_neg z]
    exact ⟨fun q => absurd q (by decide), fun q => by
      rcases q with q | q
      · exact absurd q (by decide)
      · exact absurd q z⟩
theorem q_I.set {n : Nat} {A P : Nat → Nat → Int32} {st mk lv : Nat → Int32} {cl pr : Nat → Nat → Int32} {si wk x : Int32} {pa ce wd : Nat → Int32} {p i j : Nat} (h : q_I n A P st mk lv cl pr si wk pa ce wd) (hp : p < 4) (hi : i < 4) (hj : j < 4) : q_I n A P st mk lv cl (up2 pr p (i * 4 + j) x) si wk (upd pa (p * 16 + i * 4 + j) x) ce wd := by
  obtain ⟨h1, h2, h3, h4, h5, h6, h7, h8, h9, h10⟩ := h
  refine ⟨h1, h2, h3, h4, h5, h6, h7, fun p' t hp' ht => ?_, h9, h10⟩
  unfold upd up2
  by_cases z : p' = p ∧ t = i * 4 + j
  · rw [if_pos z, if_pos (by omega)]
  · rw [if_neg z, if_neg (by omega)]
    exact h8 p' t hp' ht
theorem q_I.sts {n : Nat} {A P : Nat → Nat → Int32} {st mk lv : Nat → Int32} {cl pr : Nat → Nat → Int32} {si wk : Int32} {pa ce wd : Nat → Int32} (h : q_I n A P st mk lv cl pr si wk pa ce wd) : ∀ m, m < n → ∃ j, j < n ∧ st m = nI j := fun m hm => by
  obtain ⟨j, h1, h2, -, -⟩ := h.2.2.2.1.2 m hm
  exact ⟨j, by omega, h2⟩
theorem q_I_0 : q_I 0 (fun _ _ => 0) (fun _ _ => 0) (fun _ => 0) (fun _ => 0) (fun _ => 0) (fun _ _ => 0) (fun _ _ => 0) 0 0 (fun _ => 0) (fun _ => 0) (fun _ => 0) :=
  ⟨by omega, fun v hv => absurd hv (by omega), fun v hv => absurd hv (by omega), ⟨fun v hv => absurd hv (by omega), fun v hv => absurd hv (by omega)⟩, fun _ _ => rfl, fun v hv => absurd hv (by omega), fun _ => ⟨fun v hv => absurd hv (by omega), fun v hv => absurd hv (by omega)⟩, fun _ _ _ _ => rfl, fun v hv => absurd hv (by omega), fun z => absurd rfl z⟩
theorem q_cnt_cg {lv l : Nat → Int32} : ∀ n : Nat, (∀ u, u < n → lv u = l u) → q_cnt lv n = q_cnt l n := by
  intro n
  induction n with
  | zero => intro _; rfl
  | succ n ih =>
    intro h
    show (if lv n = 0 then q_cnt lv n else q_cnt lv n + 1) = (if l n = 0 then q_cnt l n else q_cnt l n + 1)
    rw [ih (fun u hu => h u (by omega)), h n (by omega)]
theorem q_wsum_cg {P : Nat → Nat → Int32} {lv l : Nat → Int32} : ∀ n : Nat, (∀ u, u < n → lv u = l u) → q_wsum P lv n = q_wsum P l n := by
  intro n
  induction n with
  | zero => intro _; rfl
  | succ n ih =>
    intro h
    show (if lv n = 0 then q_wsum P lv n else q_wsum P lv n + q_work P n) = (if l n = 0 then q_wsum P l n else q_wsum P l n + q_work P n)
    rw [ih (fun u hu => h u (by omega)), h n (by omega)]
