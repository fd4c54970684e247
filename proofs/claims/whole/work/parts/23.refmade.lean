/-! ===== the reference: working out ===== -/
/-- the reference's cells of a value are the class's -/
def q_rel (P cl : Nat → Nat → Int32) (ce : Nat → Int32) (a : Nat) : Prop := ∀ i j, i < ix (P a 1) → j < ix (P a 2) → ce (a * 16 + i * 4 + j) = q_at P cl a i j
def q_par (pr : Nat → Nat → Int32) (pa : Nat → Int32) : Prop := ∀ p t, p < 4 → t < 16 → pa (p * 16 + t) = pr p t
theorem q_wc9 {P pr cl : Nat → Nat → Int32} {v i j : Nat} (h : P v 0 = 9) : q_wc P pr cl v i j = if P v 5 = 0 then q_sum (fun k => q_at P cl (ix (P v 3)) k j) (ix (P (ix (P v 3)) 1)) else q_sum (fun k => q_at P cl (ix (P v 3)) i k) (ix (P (ix (P v 3)) 2)) := by
  unfold q_wc
  rw [h]
  rfl
theorem pk_divP {y : Int32} {k : Nat} (hk : k < 65536) (hy : q_dim y) : nI k / y = nI (k / ix y) := by
  obtain ⟨a, b, e⟩ := q_dim_pos hy
  exact (congrArg (fun z => nI k / z) e).trans (pk_div (by omega) (by omega) (by omega))
theorem pk_remP {y : Int32} {k : Nat} (hk : k < 65536) (hy : q_dim y) : nI k - nI k / y * y = nI (k % ix y) := by
  obtain ⟨a, b, e⟩ := q_dim_pos hy
  exact (congrArg (fun z => nI k - nI k / z * z) e).trans (pk_rem (by omega) (by omega) (by omega))
theorem q_dim_nz {y : Int32} (hy : q_dim y) : ¬ y = 0 := fun q => by
  obtain ⟨a, b, e⟩ := q_dim_pos hy
  rw [q] at a
  exact absurd a (by decide)
theorem q_dim_mul {x y z t : Int32} (hx : q_dim x) (hy : q_dim y) (hz : q_dim z) (ht : q_dim t) (h : x * y = z * t) : ix x * ix y = ix z * ix t := by
  obtain ⟨a1, a2, a3⟩ := q_dim_pos hx
  obtain ⟨b1, b2, b3⟩ := q_dim_pos hy
  obtain ⟨c1, c2, c3⟩ := q_dim_pos hz
  obtain ⟨d1, d2, d3⟩ := q_dim_pos ht
  have e1 : x * y = nI (ix x * ix y) := (congrArg (fun q => q * y) a3).trans ((congrArg (fun q => nI (ix x) * q) b3).trans (pk_mul _ _))
  have e2 : z * t = nI (ix z * ix t) := (congrArg (fun q => q * t) c3).trans ((congrArg (fun q => nI (ix z) * q) d3).trans (pk_mul _ _))
  have m1 := Nat.mul_le_mul a2 b2
  have m2 := Nat.mul_le_mul c2 d2
  exact nI_inj (by omega) (by omega) (by rw [← e1, ← e2, h])
set_option maxRecDepth 100000 in
set_option maxHeartbeats 4000000 in
theorem lpM_totD {g : am_G} {d : Nat} {Q : Option am_V → am_H → Prop} {X : Nat → Nat → Nat → am_V} {A P : Nat → Nat → Int32} {st mk pa ce wd us : Nat → Int32} {va si : Int32} {cl : Nat → Nat → Int32} {v i0 j0 m : Nat} {nn : Int32} (hv : v < 28) (ha : ix (P v 3) < 28) (ea : P v 3 = nI (ix (P v 3))) (hi4 : i0 < 4) (hj4 : j0 < 4) (hN : nn = nI m) (hm4 : m ≤ 4) (hb : ix (P v 4) < 28) (eb : P v 4 = nI (ix (P v 4))) (hR : ∀ k, k < m → ce (ix (P v 3) * 16 + i0 * 4 + k) = q_at P cl (ix (P v 3)) i0 k) (hS : ∀ k, k < m → ce (ix (P v 4) * 16 + k * 4 + j0) = q_at P cl (ix (P v 4)) k j0) (K : Q (some (am_I (q_sum (fun k => q_at P cl (ix (P v 3)) i0 k * q_at P cl (ix (P v 4)) k j0) m))) (hm X (ym A P st mk pa ce wd us va si))) : ∀ (j i : Nat), i + j = m → am_T g mM_total (d + 1) 0 0 66 [some (am_O 20 0), some (am_I (nI v)), some (am_I (nI i0)), some (am_I (nI j0)), some (am_I (P v 3)), some (am_I (q_sum (fun k => q_at P cl (ix (P v 3)) i0 k * q_at P cl (ix (P v 4)) k j0) i)), some (am_I 1), some (am_I nn), some (am_I (nI i))] [] (hm X (ym A P st mk pa ce wd us va si)) Q := by
  intro j
  induction j with
  | zero =>
    intro i hi
    refine am_iload (i := 8) dM_total_66 rfl ?_
    refine am_iload (i := 7) dM_total_68 rfl ?_
    refine am_icmp_ge_T (tgt := 146) dM_total_70 (by decide) (by rw [hN]; exact ((nI_le' (by omega) (by omega)).mpr (by omega))) ?_
    refine am_iload (i := 5) dM_total_146 rfl ?_
    refine am_iret (st := []) rfl rfl dM_total_148 ?_
    have e : i = m := by omega
    subst e
    exact K
  | succ j ih =>
    intro i hi
    refine am_iload (i := 8) dM_total_66 rfl ?_
    refine am_iload (i := 7) dM_total_68 rfl ?_
    refine am_icmp_ge_F (tgt := 146) dM_total_70 (by decide) (by rw [hN]; exact (fun q => absurd ((nI_le' (by omega) (by omega)).mp q) (by omega))) ?_
    refine am_iload (i := 5) dM_total_73 rfl ?_
    refine am_iload (i := 6) dM_total_75 rfl ?_
    refine am_if_eq_F (tgt := 106) dM_total_77 (by decide) (by decide) ?_
    refine am_aload_n (i := 0) dM_total_80 rfl rfl ?_
    refine am_iload (i := 4) dM_total_81 rfl ?_
    refine am_iload_n (i := 2) dM_total_83 rfl rfl ?_
    refine am_iload (i := 8) dM_total_84 rfl ?_
    refine am_callV (ac' := 0) (as' := 0) (xs := [_, _, _]) dM_total_86 lkM_101 (by first | rfl | exact sk8 (by omega) | exact sk9 (by omega) | exact sk10 (by omega) | exact sk11 (by omega)) rfl rfl rfl rfl (Nat.le_of_ble_eq_true rfl) rfl rfl (cM_at (i0 := i0) (j0 := i) ha ea rfl rfl (by omega) (by omega) (fun r er => ?_))
    refine am_aload_n (i := 0) dM_total_89 rfl rfl ?_
    refine am_aload_n (i := 0) dM_total_90 rfl rfl ?_
    refine am_getf dM_total_91 flM_16 (by first | rfl | exact sk8 (by omega) | exact sk9 (by omega) | exact sk10 (by omega) | exact sk11 (by omega)) rfl ?_
    refine am_iload_n (i := 1) dM_total_94 rfl rfl ?_
    refine am_iald dM_total_95 (by first | rfl | exact sk8 (by omega) | exact sk9 (by omega) | exact sk10 (by omega) | exact sk11 (by omega)) rfl (by first | omega | assumption | decide) (by decide) (by decide) (by first | exact congrArg am_I (mkd_lo (by omega)) | exact congrArg am_I (mkd_hi (by omega)) | rfl) ?_
    refine am_iload (i := 8) dM_total_96 rfl ?_
    refine am_iload_n (i := 3) dM_total_98 rfl rfl ?_
    refine am_callV (ac' := 0) (as' := 0) (xs := [_, _, _]) dM_total_99 lkM_101 (by first | rfl | exact sk8 (by omega) | exact sk9 (by omega) | exact sk10 (by omega) | exact sk11 (by omega)) rfl rfl rfl rfl (Nat.le_of_ble_eq_true rfl) rfl rfl (cM_at (i0 := i) (j0 := j0) hb eb rfl rfl (by omega) (by omega) (fun s es => ?_))
    refine am_imul dM_total_102 ?_
    refine am_goto (tgt := 137) dM_total_103 (by decide) ?_
    refine am_iadd dM_total_137 ?_
    refine am_istore (i := 5) dM_total_138 (by decide) ?_
    refine am_iinc dM_total_140 rfl (by first | exact nI_1 _ | exact pk_m1 _ | rfl) (by decide) ?_
    refine am_goto (tgt := 66) dM_total_143 (by decide) ?_
    refine am_lT (lv' := [some (am_O 20 0), some (am_I (nI v)), some (am_I (nI i0)), some (am_I (nI j0)), some (am_I (P v 3)), some (am_I (q_sum (fun k => q_at P cl (ix (P v 3)) i0 k * q_at P cl (ix (P v 4)) k j0) (i + 1))), some (am_I 1), some (am_I nn), some (am_I (nI (i + 1)))]) ?_ (ih (i + 1) (by omega))
    rw [er, es, hR i (by omega), hS i (by omega)]
    rfl
set_option maxRecDepth 100000 in
set_option maxHeartbeats 4000000 in
theorem lpM_totR {g : am_G} {d : Nat} {Q : Option am_V → am_H → Prop} {X : Nat → Nat → Nat → am_V} {A P : Nat → Nat → Int32} {st mk pa ce wd us : Nat → Int32} {va si : Int32} {cl : Nat → Nat → Int32} {v i0 j0 m : Nat} {nn : Int32} (hv : v < 28) (ha : ix (P v 3) < 28) (ea : P v 3 = nI (ix (P v 3))) (hi4 : i0 < 4) (hj4 : j0 < 4) (hN : nn = nI m) (hm4 : m ≤ 4) (hp : P v 5 = 1) (hR : ∀ k, k < m → ce (ix (P v 3) * 16 + i0 * 4 + k) = q_at P cl (ix (P v 3)) i0 k) (K : Q (some (am_I (q_sum (fun k => q_at P cl (ix (P v 3)) i0 k) m))) (hm X (ym A P st mk pa ce wd us va si))) : ∀ (j i : Nat), i + j = m → am_T g mM_total (d + 1) 0 0 66 [some (am_O 20 0), some (am_I (nI v)), some (am_I (nI i0)), some (am_I (nI j0)), some (am_I (P v 3)), some (am_I (q_sum (fun k => q_at P cl (ix (P v 3)) i0 k) i)), some (am_I 0), some (am_I nn), some (am_I (nI i))] [] (hm X (ym A P st mk pa ce wd us va si)) Q := by
  intro j
  induction j with
  | zero =>
    intro i hi
    refine am_iload (i := 8) dM_total_66 rfl ?_
    refine am_iload (i := 7) dM_total_68 rfl ?_
    refine am_icmp_ge_T (tgt := 146) dM_total_70 (by decide) (by rw [hN]; exact ((nI_le' (by omega) (by omega)).mpr (by omega))) ?_
    refine am_iload (i := 5) dM_total_146 rfl ?_
    refine am_iret (st := []) rfl rfl dM_total_148 ?_
    have e : i = m := by omega
    subst e
    exact K
  | succ j ih =>
    intro i hi
    refine am_iload (i := 8) dM_total_66 rfl ?_
    refine am_iload (i := 7) dM_total_68 rfl ?_
    refine am_icmp_ge_F (tgt := 146) dM_total_70 (by decide) (by rw [hN]; exact (fun q => absurd ((nI_le' (by omega) (by omega)).mp q) (by omega))) ?_
    refine am_iload (i := 5) dM_total_73 rfl ?_
    refine am_iload (i := 6) dM_total_75 rfl ?_
    refine am_if_eq_T (tgt := 106) dM_total_77 (by decide) (by decide) ?_
    refine am_aload_n (i := 0) dM_total_106 rfl rfl ?_
    refine am_getf dM_total_107 flM_19 (by first | rfl | exact sk8 (by omega) | exact sk9 (by omega) | exact sk10 (by omega) | exact sk11 (by omega)) rfl ?_
    refine am_iload_n (i := 1) dM_total_110 rfl rfl ?_
    refine am_iald dM_total_111 (by first | rfl | exact sk8 (by omega) | exact sk9 (by omega) | exact sk10 (by omega) | exact sk11 (by omega)) rfl (by first | omega | assumption | decide) (by decide) (by decide) (by first | exact congrArg am_I (mkd_lo (by omega)) | exact congrArg am_I (mkd_hi (by omega)) | rfl) ?_
    refine am_iconst (v := 1) dM_total_112 (by decide) ?_
    refine am_icmp_ne_F (tgt := 128) dM_total_113 (by decide) hp ?_
    refine am_aload_n (i := 0) dM_total_116 rfl rfl ?_
    refine am_iload (i := 4) dM_total_117 rfl ?_
    refine am_iload_n (i := 2) dM_total_119 rfl rfl ?_
    refine am_iload (i := 8) dM_total_120 rfl ?_
    refine am_callV (ac' := 0) (as' := 0) (xs := [_, _, _]) dM_total_122 lkM_101 (by first | rfl | exact sk8 (by omega) | exact sk9 (by omega) | exact sk10 (by omega) | exact sk11 (by omega)) rfl rfl rfl rfl (Nat.le_of_ble_eq_true rfl) rfl rfl (cM_at (i0 := i0) (j0 := i) ha ea rfl rfl (by omega) (by omega) (fun r er => ?_))
    refine am_goto (tgt := 137) dM_total_125 (by decide) ?_
    refine am_iadd dM_total_137 ?_
    refine am_istore (i := 5) dM_total_138 (by decide) ?_
    refine am_iinc dM_total_140 rfl (by first | exact nI_1 _ | exact pk_m1 _ | rfl) (by decide) ?_
    refine am_goto (tgt := 66) dM_total_143 (by decide) ?_
    refine am_lT (lv' := [some (am_O 20 0), some (am_I (nI v)), some (am_I (nI i0)), some (am_I (nI j0)), some (am_I (P v 3)), some (am_I (q_sum (fun k => q_at P cl (ix (P v 3)) i0 k) (i + 1))), some (am_I 0), some (am_I nn), some (am_I (nI (i + 1)))]) ?_ (ih (i + 1) (by omega))
    rw [er, hR i (by omega)]
    rfl
set_option maxRecDepth 100000 in
set_option maxHeartbeats 4000000 in
theorem lpM_totC {g : am_G} {d : Nat} {Q : Option am_V → am_H → Prop} {X : Nat → Nat → Nat → am_V} {A P : Nat → Nat → Int32} {st mk pa ce wd us : Nat → Int32} {va si : Int32} {cl : Nat → Nat → Int32} {v i0 j0 m : Nat} {nn : Int32} (hv : v < 28) (ha : ix (P v 3) < 28) (ea : P v 3 = nI (ix (P v 3))) (hi4 : i0 < 4) (hj4 : j0 < 4) (hN : nn = nI m) (hm4 : m ≤ 4) (hp : ¬ P v 5 = 1) (hR : ∀ k, k < m → ce (ix (P v 3) * 16 + k * 4 + j0) = q_at P cl (ix (P v 3)) k j0) (K : Q (some (am_I (q_sum (fun k => q_at P cl (ix (P v 3)) k j0) m))) (hm X (ym A P st mk pa ce wd us va si))) : ∀ (j i : Nat), i + j = m → am_T g mM_total (d + 1) 0 0 66 [some (am_O 20 0), some (am_I (nI v)), some (am_I (nI i0)), some (am_I (nI j0)), some (am_I (P v 3)), some (am_I (q_sum (fun k => q_at P cl (ix (P v 3)) k j0) i)), some (am_I 0), some (am_I nn), some (am_I (nI i))] [] (hm X (ym A P st mk pa ce wd us va si)) Q := by
  intro j
  induction j with
  | zero =>
    intro i hi
    refine am_iload (i := 8) dM_total_66 rfl ?_
    refine am_iload (i := 7) dM_total_68 rfl ?_
    refine am_icmp_ge_T (tgt := 146) dM_total_70 (by decide) (by rw [hN]; exact ((nI_le' (by omega) (by omega)).mpr (by omega))) ?_
    refine am_iload (i := 5) dM_total_146 rfl ?_
    refine am_iret (st := []) rfl rfl dM_total_148 ?_
    have e : i = m := by omega
    subst e
    exact K
  | succ j ih =>
    intro i hi
    refine am_iload (i := 8) dM_total_66 rfl ?_
    refine am_iload (i := 7) dM_total_68 rfl ?_
    refine am_icmp_ge_F (tgt := 146) dM_total_70 (by decide) (by rw [hN]; exact (fun q => absurd ((nI_le' (by omega) (by omega)).mp q) (by omega))) ?_
    refine am_iload (i := 5) dM_total_73 rfl ?_
    refine am_iload (i := 6) dM_total_75 rfl ?_
    refine am_if_eq_T (tgt := 106) dM_total_77 (by decide) (by decide) ?_
    refine am_aload_n (i := 0) dM_total_106 rfl rfl ?_
    refine am_getf dM_total_107 flM_19 (by first | rfl | exact sk8 (by omega) | exact sk9 (by omega) | exact sk10 (by omega) | exact sk11 (by omega)) rfl ?_
    refine am_iload_n (i := 1) dM_total_110 rfl rfl ?_
    refine am_iald dM_total_111 (by first | rfl | exact sk8 (by omega) | exact sk9 (by omega) | exact sk10 (by omega) | exact sk11 (by omega)) rfl (by first | omega | assumption | decide) (by decide) (by decide) (by first | exact congrArg am_I (mkd_lo (by omega)) | exact congrArg am_I (mkd_hi (by omega)) | rfl) ?_
    refine am_iconst (v := 1) dM_total_112 (by decide) ?_
    refine am_icmp_ne_T (tgt := 128) dM_total_113 (by decide) hp ?_
    refine am_aload_n (i := 0) dM_total_128 rfl rfl ?_
    refine am_iload (i := 4) dM_total_129 rfl ?_
    refine am_iload (i := 8) dM_total_131 rfl ?_
    refine am_iload_n (i := 3) dM_total_133 rfl rfl ?_
    refine am_callV (ac' := 0) (as' := 0) (xs := [_, _, _]) dM_total_134 lkM_101 (by first | rfl | exact sk8 (by omega) | exact sk9 (by omega) | exact sk10 (by omega) | exact sk11 (by omega)) rfl rfl rfl rfl (Nat.le_of_ble_eq_true rfl) rfl rfl (cM_at (i0 := i) (j0 := j0) ha ea rfl rfl (by omega) (by omega) (fun r er => ?_))
    refine am_iadd dM_total_137 ?_
    refine am_istore (i := 5) dM_total_138 (by decide) ?_
    refine am_iinc dM_total_140 rfl (by first | exact nI_1 _ | exact pk_m1 _ | rfl) (by decide) ?_
    refine am_goto (tgt := 66) dM_total_143 (by decide) ?_
    refine am_lT (lv' := [some (am_O 20 0), some (am_I (nI v)), some (am_I (nI i0)), some (am_I (nI j0)), some (am_I (P v 3)), some (am_I (q_sum (fun k => q_at P cl (ix (P v 3)) k j0) (i + 1))), some (am_I 0), some (am_I nn), some (am_I (nI (i + 1)))]) ?_ (ih (i + 1) (by omega))
    rw [er, hR i (by omega)]
    rfl
set_option maxRecDepth 100000 in
set_option maxHeartbeats 4000000 in
theorem cM_total8 {g : am_G} {d : Nat} {Q : Option am_V → am_H → Prop} {X : Nat → Nat → Nat → am_V} {A P : Nat → Nat → Int32} {st mk pa ce wd us : Nat → Int32} {si : Int32} {n : Nat} {cl pr : Nat → Nat → Int32} {v i0 j0 : Nat} (hn : n ≤ 28) (hP : ∀ u, u < n → q_ok P u) (hv : v < n) (hi : i0 < ix (P v 1)) (hj : j0 < ix (P v 2)) (hR3 : 2 < P v 0 → q_rel P cl ce (ix (P v 3))) (hR4 : (P v 0 = 3 ∨ P v 0 = 4 ∨ P v 0 = 5 ∨ P v 0 = 8) → q_rel P cl ce (ix (P v 4))) (hk : P v 0 = 8) (k : ∀ r, r = q_wc P pr cl v i0 j0 → Q (some (am_I r)) (hm X (ym A P st mk pa ce wd us (nI n) si))) : am_C g mM_total (d + 1) 0 0 [am_O 20 0, am_I (nI v), am_I (nI i0), am_I (nI j0)] (hm X (ym A P st mk pa ce wd us (nI n) si)) Q := by
  refine am_enter (lv := [some (am_O 20 0), some (am_I (nI v)), some (am_I (nI i0)), some (am_I (nI j0)), none, none, none, none, none]) rfl rfl (am_cat1 rfl) (Nat.le_of_ble_eq_true rfl) ?_
  have hok := hP v hv
  obtain ⟨⟨hb3, hb4, hb5, hb6⟩, hcom, hkd, hdr, hdc⟩ := hok
  obtain ⟨r1, r2, r3⟩ := q_dim_pos hdr
  obtain ⟨c1, c2, c3⟩ := q_dim_pos hdc
  unfold q_com q_fit at hcom
  obtain ⟨g3, e3⟩ := hb3.ix (hb5 (k2_of _ hk (by decide))) (by omega)
  have hR := hR3 (k2_of _ hk (by decide))
  have hda1 := (hP (ix (P v 3)) (by omega)).2.2.2.1
  have hda := (hP (ix (P v 3)) (by omega)).2.2.2.2
  obtain ⟨m1, m2, m3⟩ := q_dim_pos hda
  obtain ⟨l1, l2, l3⟩ := q_dim_pos hda1
  obtain ⟨g4, e4⟩ := hb4.ix (hb6 (Or.inr (Or.inr (Or.inr hk)))) (by omega)
  have hS := hR4 (Or.inr (Or.inr (Or.inr hk)))
  obtain ⟨x1, x2, x3⟩ := q_dim_pos (hP (ix (P v 4)) (by omega)).2.2.2.2
  refine am_aload_n (i := 0) dM_total_0 rfl rfl ?_
  refine am_getf dM_total_1 flM_13 (by first | rfl | exact sk8 (by omega) | exact sk9 (by omega) | exact sk10 (by omega) | exact sk11 (by omega)) rfl ?_
  refine am_iload_n (i := 1) dM_total_4 rfl rfl ?_
  refine am_iald dM_total_5 (by first | rfl | exact sk8 (by omega) | exact sk9 (by omega) | exact sk10 (by omega) | exact sk11 (by omega)) rfl (by first | omega | assumption | decide) (by decide) (by decide) (by first | exact congrArg am_I (mkd_lo (by omega)) | exact congrArg am_I (mkd_hi (by omega)) | rfl) ?_
  refine am_istore (i := 4) dM_total_6 (by decide) ?_
  refine am_iconst (v := 0) dM_total_8 (by decide) ?_
  refine am_istore (i := 5) dM_total_9 (by decide) ?_
  refine am_aload_n (i := 0) dM_total_11 rfl rfl ?_
  refine am_getf dM_total_12 flM_7 (by first | rfl | exact sk8 (by omega) | exact sk9 (by omega) | exact sk10 (by omega) | exact sk11 (by omega)) rfl ?_
  refine am_iload_n (i := 1) dM_total_15 rfl rfl ?_
  refine am_iald dM_total_16 (by first | rfl | exact sk8 (by omega) | exact sk9 (by omega) | exact sk10 (by omega) | exact sk11 (by omega)) rfl (by first | omega | assumption | decide) (by decide) (by decide) (by first | exact congrArg am_I (mkd_lo (by omega)) | exact congrArg am_I (mkd_hi (by omega)) | rfl) ?_
  refine am_bipush (v := 8) dM_total_17 (by decide) ?_
  refine am_icmp_ne_F (tgt := 26) dM_total_19 (by decide) hk ?_
  refine am_iconst (v := 1) dM_total_22 (by decide) ?_
  refine am_goto (tgt := 27) dM_total_23 (by decide) ?_
  refine am_istore (i := 6) dM_total_27 (by decide) ?_
  refine am_iload (i := 6) dM_total_29 rfl ?_
  refine am_if_ne_T (tgt := 44) dM_total_31 (by decide) (by decide) ?_
  refine am_aload_n (i := 0) dM_total_44 rfl rfl ?_
  refine am_getf dM_total_45 flM_28 (by first | rfl | exact sk8 (by omega) | exact sk9 (by omega) | exact sk10 (by omega) | exact sk11 (by omega)) rfl ?_
  refine am_iload (i := 4) dM_total_48 rfl ?_
  refine am_iald dM_total_50 (by first | rfl | exact sk8 (by omega) | exact sk9 (by omega) | exact sk10 (by omega) | exact sk11 (by omega)) e3 (by first | omega | assumption | decide) (by decide) (by decide) (by first | exact congrArg am_I (mkd_lo (by omega)) | exact congrArg am_I (mkd_hi (by omega)) | rfl) ?_
  refine am_goto (tgt := 61) dM_total_51 (by decide) ?_
  refine am_istore (i := 7) dM_total_61 (by decide) ?_
  refine am_iconst (v := 0) dM_total_63 (by decide) ?_
  refine am_istore (i := 8) dM_total_64 (by decide) ?_
  have hf := hcom.2.2.2.1 hk
  have t1 : ix (P v 1) = ix (P (ix (P v 3)) 1) := congrArg ix hf.1
  have t2 : ix (P v 2) = ix (P (ix (P v 4)) 2) := congrArg ix hf.2.1
  have t3 : ix (P (ix (P v 3)) 2) = ix (P (ix (P v 4)) 1) := congrArg ix hf.2.2
  exact lpM_totD (by omega) (by omega) e3 (by omega) (by omega) m3 (by omega) (by omega) e4 (fun k hk => hR i0 k (by omega) hk) (fun k hk => hS k j0 (by omega) (by omega)) (k _ (by unfold q_wc; rw [hk]; rfl)) (ix (P (ix (P v 3)) 2)) 0 (by omega)
set_option maxRecDepth 100000 in
set_option maxHeartbeats 4000000 in
theorem cM_total9 {g : am_G} {d : Nat} {Q : Option am_V → am_H → Prop} {X : Nat → Nat → Nat → am_V} {A P : Nat → Nat → Int32} {st mk pa ce wd us : Nat → Int32} {si : Int32} {n : Nat} {cl pr : Nat → Nat → Int32} {v i0 j0 : Nat} (hn : n ≤ 28) (hP : ∀ u, u < n → q_ok P u) (hv : v < n) (hi : i0 < ix (P v 1)) (hj : j0 < ix (P v 2)) (hR3 : 2 < P v 0 → q_rel P cl ce (ix (P v 3))) (hR4 : (P v 0 = 3 ∨ P v 0 = 4 ∨ P v 0 = 5 ∨ P v 0 = 8) → q_rel P cl ce (ix (P v 4))) (hk : P v 0 = 9) (k : ∀ r, r = q_wc P pr cl v i0 j0 → Q (some (am_I r)) (hm X (ym A P st mk pa ce wd us (nI n) si))) : am_C g mM_total (d + 1) 0 0 [am_O 20 0, am_I (nI v), am_I (nI i0), am_I (nI j0)] (hm X (ym A P st mk pa ce wd us (nI n) si)) Q := by
  refine am_enter (lv := [some (am_O 20 0), some (am_I (nI v)), some (am_I (nI i0)), some (am_I (nI j0)), none, none, none, none, none]) rfl rfl (am_cat1 rfl) (Nat.le_of_ble_eq_true rfl) ?_
  have hok := hP v hv
  obtain ⟨⟨hb3, hb4, hb5, hb6⟩, hcom, hkd, hdr, hdc⟩ := hok
  obtain ⟨r1, r2, r3⟩ := q_dim_pos hdr
  obtain ⟨c1, c2, c3⟩ := q_dim_pos hdc
  unfold q_com q_fit at hcom
  obtain ⟨g3, e3⟩ := hb3.ix (hb5 (k2_of _ hk (by decide))) (by omega)
  have hR := hR3 (k2_of _ hk (by decide))
  have hda1 := (hP (ix (P v 3)) (by omega)).2.2.2.1
  have hda := (hP (ix (P v 3)) (by omega)).2.2.2.2
  obtain ⟨m1, m2, m3⟩ := q_dim_pos hda
  obtain ⟨l1, l2, l3⟩ := q_dim_pos hda1
  refine am_aload_n (i := 0) dM_total_0 rfl rfl ?_
  refine am_getf dM_total_1 flM_13 (by first | rfl | exact sk8 (by omega) | exact sk9 (by omega) | exact sk10 (by omega) | exact sk11 (by omega)) rfl ?_
  refine am_iload_n (i := 1) dM_total_4 rfl rfl ?_
  refine am_iald dM_total_5 (by first | rfl | exact sk8 (by omega) | exact sk9 (by omega) | exact sk10 (by omega) | exact sk11 (by omega)) rfl (by first | omega | assumption | decide) (by decide) (by decide) (by first | exact congrArg am_I (mkd_lo (by omega)) | exact congrArg am_I (mkd_hi (by omega)) | rfl) ?_
  refine am_istore (i := 4) dM_total_6 (by decide) ?_
  refine am_iconst (v := 0) dM_total_8 (by decide) ?_
  refine am_istore (i := 5) dM_total_9 (by decide) ?_
  refine am_aload_n (i := 0) dM_total_11 rfl rfl ?_
  refine am_getf dM_total_12 flM_7 (by first | rfl | exact sk8 (by omega) | exact sk9 (by omega) | exact sk10 (by omega) | exact sk11 (by omega)) rfl ?_
  refine am_iload_n (i := 1) dM_total_15 rfl rfl ?_
  refine am_iald dM_total_16 (by first | rfl | exact sk8 (by omega) | exact sk9 (by omega) | exact sk10 (by omega) | exact sk11 (by omega)) rfl (by first | omega | assumption | decide) (by decide) (by decide) (by first | exact congrArg am_I (mkd_lo (by omega)) | exact congrArg am_I (mkd_hi (by omega)) | rfl) ?_
  refine am_bipush (v := 8) dM_total_17 (by decide) ?_
  refine am_icmp_ne_T (tgt := 26) dM_total_19 (by decide) (by rw [hk]; decide) ?_
  refine am_iconst (v := 0) dM_total_26 (by decide) ?_
  refine am_istore (i := 6) dM_total_27 (by decide) ?_
  refine am_iload (i := 6) dM_total_29 rfl ?_
  refine am_if_ne_F (tgt := 44) dM_total_31 (by decide) (by decide) ?_
  refine am_aload_n (i := 0) dM_total_34 rfl rfl ?_
  refine am_getf dM_total_35 flM_19 (by first | rfl | exact sk8 (by omega) | exact sk9 (by omega) | exact sk10 (by omega) | exact sk11 (by omega)) rfl ?_
  refine am_iload_n (i := 1) dM_total_38 rfl rfl ?_
  refine am_iald dM_total_39 (by first | rfl | exact sk8 (by omega) | exact sk9 (by omega) | exact sk10 (by omega) | exact sk11 (by omega)) rfl (by first | omega | assumption | decide) (by decide) (by decide) (by first | exact congrArg am_I (mkd_lo (by omega)) | exact congrArg am_I (mkd_hi (by omega)) | rfl) ?_
  refine am_iconst (v := 1) dM_total_40 (by decide) ?_
  refine am_icmp_ne (tgt := 54) dM_total_41 (by decide) (fun c41 => ?_) (fun c41 => ?_)
  · refine am_aload_n (i := 0) dM_total_54 rfl rfl ?_
    refine am_getf dM_total_55 flM_25 (by first | rfl | exact sk8 (by omega) | exact sk9 (by omega) | exact sk10 (by omega) | exact sk11 (by omega)) rfl ?_
    refine am_iload (i := 4) dM_total_58 rfl ?_
    refine am_iald dM_total_60 (by first | rfl | exact sk8 (by omega) | exact sk9 (by omega) | exact sk10 (by omega) | exact sk11 (by omega)) e3 (by first | omega | assumption | decide) (by decide) (by decide) (by first | exact congrArg am_I (mkd_lo (by omega)) | exact congrArg am_I (mkd_hi (by omega)) | rfl) ?_
    refine am_istore (i := 7) dM_total_61 (by decide) ?_
    refine am_iconst (v := 0) dM_total_63 (by decide) ?_
    refine am_istore (i := 8) dM_total_64 (by decide) ?_
    obtain ⟨hp0, hf1, hf2⟩ := (hcom.2.2.2.2.1 hk).resolve_right (fun q => c41 q.1)
    have t2 : ix (P v 2) = ix (P (ix (P v 3)) 2) := congrArg ix hf2
    exact lpM_totC (by omega) (by omega) e3 (by omega) (by omega) l3 (by omega) c41 (fun k hk => hR k j0 hk (by omega)) (k _ (by rw [q_wc9 hk, if_pos hp0])) (ix (P (ix (P v 3)) 1)) 0 (by omega)
  · refine am_aload_n (i := 0) dM_total_44 rfl rfl ?_
    refine am_getf dM_total_45 flM_28 (by first | rfl | exact sk8 (by omega) | exact sk9 (by omega) | exact sk10 (by omega) | exact sk11 (by omega)) rfl ?_
    refine am_iload (i := 4) dM_total_48 rfl ?_
    refine am_iald dM_total_50 (by first | rfl | exact sk8 (by omega) | exact sk9 (by omega) | exact sk10 (by omega) | exact sk11 (by omega)) e3 (by first | omega | assumption | decide) (by decide) (by decide) (by first | exact congrArg am_I (mkd_lo (by omega)) | exact congrArg am_I (mkd_hi (by omega)) | rfl) ?_
    refine am_goto (tgt := 61) dM_total_51 (by decide) ?_
    refine am_istore (i := 7) dM_total_61 (by decide) ?_
    refine am_iconst (v := 0) dM_total_63 (by decide) ?_
    refine am_istore (i := 8) dM_total_64 (by decide) ?_
    obtain ⟨hp0, hf1, hf2⟩ := (hcom.2.2.2.2.1 hk).resolve_left (fun q => by rw [c41] at q; exact absurd q.1 (by decide))
    have t1 : ix (P v 1) = ix (P (ix (P v 3)) 1) := congrArg ix hf1
    have hp1 : ¬ P v 5 = 0 := by rw [c41]; decide
    exact lpM_totR (by omega) (by omega) e3 (by omega) (by omega) m3 (by omega) c41 (fun k hk => hR i0 k (by omega) hk) (k _ (by rw [q_wc9 hk, if_neg hp1])) (ix (P (ix (P v 3)) 2)) 0 (by omega)
set_option maxRecDepth 100000 in
set_option maxHeartbeats 4000000 in
theorem cM_made {g : am_G} {d : Nat} {Q : Option am_V → am_H → Prop} {X : Nat → Nat → Nat → am_V} {A P : Nat → Nat → Int32} {st mk pa ce wd us : Nat → Int32} {si : Int32} {n : Nat} {cl pr : Nat → Nat → Int32} {v i0 j0 : Nat} (hn : n ≤ 28) (hP : ∀ u, u < n → q_ok P u) (hv : v < n) (hi : i0 < ix (P v 1)) (hj : j0 < ix (P v 2)) (hR3 : 2 < P v 0 → q_rel P cl ce (ix (P v 3))) (hR4 : (P v 0 = 3 ∨ P v 0 = 4 ∨ P v 0 = 5 ∨ P v 0 = 8) → q_rel P cl ce (ix (P v 4))) (hpa : q_par pr pa) (k : ∀ r, r = q_wc P pr cl v i0 j0 → Q (some (am_I r)) (hm X (ym A P st mk pa ce wd us (nI n) si))) : am_C g mM_made (d + 2) 0 0 [am_O 20 0, am_I (nI v), am_I (nI i0), am_I (nI j0)] (hm X (ym A P st mk pa ce wd us (nI n) si)) Q := by
  refine am_enter (lv := [some (am_O 20 0), some (am_I (nI v)), some (am_I (nI i0)), some (am_I (nI j0)), none, none]) rfl rfl (am_cat1 rfl) (Nat.le_of_ble_eq_true rfl) ?_
  have hok := hP v hv
  obtain ⟨⟨hb3, hb4, hb5, hb6⟩, hcom, hkd, hdr, hdc⟩ := hok
  obtain ⟨r1, r2, r3⟩ := q_dim_pos hdr
  obtain ⟨c1, c2, c3⟩ := q_dim_pos hdc
  unfold q_com q_fit at hcom
  refine am_aload_n (i := 0) dM_made_0 rfl rfl ?_
  refine am_getf dM_made_1 flM_13 (by first | rfl | exact sk8 (by omega) | exact sk9 (by omega) | exact sk10 (by omega) | exact sk11 (by omega)) rfl ?_
  refine am_iload_n (i := 1) dM_made_4 rfl rfl ?_
  refine am_iald dM_made_5 (by first | rfl | exact sk8 (by omega) | exact sk9 (by omega) | exact sk10 (by omega) | exact sk11 (by omega)) rfl (by first | omega | assumption | decide) (by decide) (by decide) (by first | exact congrArg am_I (mkd_lo (by omega)) | exact congrArg am_I (mkd_hi (by omega)) | rfl) ?_
  refine am_istore (i := 4) dM_made_6 (by decide) ?_
  refine am_aload_n (i := 0) dM_made_8 rfl rfl ?_
  refine am_getf dM_made_9 flM_16 (by first | rfl | exact sk8 (by omega) | exact sk9 (by omega) | exact sk10 (by omega) | exact sk11 (by omega)) rfl ?_
  refine am_iload_n (i := 1) dM_made_12 rfl rfl ?_
  refine am_iald dM_made_13 (by first | rfl | exact sk8 (by omega) | exact sk9 (by omega) | exact sk10 (by omega) | exact sk11 (by omega)) rfl (by first | omega | assumption | decide) (by decide) (by decide) (by first | exact congrArg am_I (mkd_lo (by omega)) | exact congrArg am_I (mkd_hi (by omega)) | rfl) ?_
  refine am_istore (i := 5) dM_made_14 (by decide) ?_
  refine am_aload_n (i := 0) dM_made_16 rfl rfl ?_
  refine am_getf dM_made_17 flM_7 (by first | rfl | exact sk8 (by omega) | exact sk9 (by omega) | exact sk10 (by omega) | exact sk11 (by omega)) rfl ?_
  refine am_iload_n (i := 1) dM_made_20 rfl rfl ?_
  refine am_iald dM_made_21 (by first | rfl | exact sk8 (by omega) | exact sk9 (by omega) | exact sk10 (by omega) | exact sk11 (by omega)) rfl (by first | omega | assumption | decide) (by decide) (by decide) (by first | exact congrArg am_I (mkd_lo (by omega)) | exact congrArg am_I (mkd_hi (by omega)) | rfl) ?_
  rcases sw_0_11 (P v 0) with s22 | s22 | s22 | s22 | s22 | s22 | s22 | s22 | s22 | s22 | s22 | s22 | s22
  · refine am_tableIn (off := 62) (tgt := 84) dM_made_22 (by rw [s22]; decide) (by rw [s22]; decide) (by rw [s22]; rfl) (by decide) ?_
    obtain ⟨p0, hp0, ep0⟩ := hcom.2.2.2.2.2.2.2.2 s22
    refine am_aload_n (i := 0) dM_made_84 rfl rfl ?_
    refine am_getf dM_made_85 flM_38 (by first | rfl | exact sk8 (by omega) | exact sk9 (by omega) | exact sk10 (by omega) | exact sk11 (by omega)) rfl ?_
    refine am_aload_n (i := 0) dM_made_88 rfl rfl ?_
    refine am_getf dM_made_89 flM_19 (by first | rfl | exact sk8 (by omega) | exact sk9 (by omega) | exact sk10 (by omega) | exact sk11 (by omega)) rfl ?_
    refine am_iload_n (i := 1) dM_made_92 rfl rfl ?_
    refine am_iald dM_made_93 (by first | rfl | exact sk8 (by omega) | exact sk9 (by omega) | exact sk10 (by omega) | exact sk11 (by omega)) rfl (by first | omega | assumption | decide) (by decide) (by decide) (by first | exact congrArg am_I (mkd_lo (by omega)) | exact congrArg am_I (mkd_hi (by omega)) | rfl) ?_
    refine am_bipush (v := 16) dM_made_94 (by decide) ?_
    refine am_imul dM_made_96 ?_
    refine am_iload_n (i := 2) dM_made_97 rfl rfl ?_
    refine am_iconst (v := 4) dM_made_98 (by decide) ?_
    refine am_imul dM_made_99 ?_
    refine am_iadd dM_made_100 ?_
    refine am_iload_n (i := 3) dM_made_101 rfl rfl ?_
    refine am_iadd dM_made_102 ?_
    refine am_iald dM_made_103 (by first | rfl | exact sk8 (by omega) | exact sk9 (by omega) | exact sk10 (by omega) | exact sk11 (by omega)) (show P v 5 * 16 + nI i0 * 4 + nI j0 = nI (p0 * 16 + i0 * 4 + j0) by rw [ep0]; exact nI_vij p0 i0 j0) (by first | omega | assumption | decide) (by decide) (by decide) (by first | exact congrArg am_I (mkd_lo (by omega)) | exact congrArg am_I (mkd_hi (by omega)) | rfl) ?_
    refine am_iret (st := []) rfl rfl dM_made_104 ?_
    exact k _ (by unfold q_wc; rw [if_pos s22, ep0, ix_nI (by omega), Nat.add_assoc]; exact hpa p0 _ hp0 (by omega))
  · refine am_tableIn (off := 83) (tgt := 105) dM_made_22 (by rw [s22]; decide) (by rw [s22]; decide) (by rw [s22]; rfl) (by decide) ?_
    refine am_aload_n (i := 0) dM_made_105 rfl rfl ?_
    refine am_getf dM_made_106 flM_19 (by first | rfl | exact sk8 (by omega) | exact sk9 (by omega) | exact sk10 (by omega) | exact sk11 (by omega)) rfl ?_
    refine am_iload_n (i := 1) dM_made_109 rfl rfl ?_
    refine am_iald dM_made_110 (by first | rfl | exact sk8 (by omega) | exact sk9 (by omega) | exact sk10 (by omega) | exact sk11 (by omega)) rfl (by first | omega | assumption | decide) (by decide) (by decide) (by first | exact congrArg am_I (mkd_lo (by omega)) | exact congrArg am_I (mkd_hi (by omega)) | rfl) ?_
    refine am_iret (st := []) rfl rfl dM_made_111 ?_
    exact k _ (by unfold q_wc; grind)
  · refine am_tableIn (off := 90) (tgt := 112) dM_made_22 (by rw [s22]; decide) (by rw [s22]; decide) (by rw [s22]; rfl) (by decide) ?_
    refine am_aload_n (i := 0) dM_made_112 rfl rfl ?_
    refine am_getf dM_made_113 flM_19 (by first | rfl | exact sk8 (by omega) | exact sk9 (by omega) | exact sk10 (by omega) | exact sk11 (by omega)) rfl ?_
    refine am_iload_n (i := 1) dM_made_116 rfl rfl ?_
    refine am_iald dM_made_117 (by first | rfl | exact sk8 (by omega) | exact sk9 (by omega) | exact sk10 (by omega) | exact sk11 (by omega)) rfl (by first | omega | assumption | decide) (by decide) (by decide) (by first | exact congrArg am_I (mkd_lo (by omega)) | exact congrArg am_I (mkd_hi (by omega)) | rfl) ?_
    refine am_if_ne (tgt := 125) dM_made_118 (by decide) (fun c118 => ?_) (fun c118 => ?_)
    · refine am_iload_n (i := 3) dM_made_125 rfl rfl ?_
      refine am_iret (st := []) rfl rfl dM_made_126 ?_
      exact k _ (by unfold q_wc; grind)
    · refine am_iload_n (i := 2) dM_made_121 rfl rfl ?_
      refine am_goto (tgt := 126) dM_made_122 (by decide) ?_
      refine am_iret (st := []) rfl rfl dM_made_126 ?_
      exact k _ (by unfold q_wc; grind)
  · refine am_tableIn (off := 105) (tgt := 127) dM_made_22 (by rw [s22]; decide) (by rw [s22]; decide) (by rw [s22]; rfl) (by decide) ?_
    obtain ⟨g3, e3⟩ := hb3.ix (hb5 (k2_of _ s22 (by decide))) (by omega)
    have hR := hR3 (k2_of _ s22 (by decide))
    have hda1 := (hP (ix (P v 3)) (by omega)).2.2.2.1
    have hda := (hP (ix (P v 3)) (by omega)).2.2.2.2
    obtain ⟨m1, m2, m3⟩ := q_dim_pos hda
    obtain ⟨l1, l2, l3⟩ := q_dim_pos hda1
    obtain ⟨g4, e4⟩ := hb4.ix (hb6 (Or.inl s22)) (by omega)
    have hS := hR4 (Or.inl s22)
    obtain ⟨x1, x2, x3⟩ := q_dim_pos (hP (ix (P v 4)) (by omega)).2.2.2.2
    obtain ⟨⟨f1, f2⟩, f3, f4⟩ := hcom.1 (Or.inl s22)
    have A1 := hR i0 j0 (by rw [← f1]; exact hi) (by rw [← f2]; exact hj)
    have A2 := hS i0 j0 (by rw [← f3]; exact hi) (by rw [← f4]; exact hj)
    refine am_aload_n (i := 0) dM_made_127 rfl rfl ?_
    refine am_iload (i := 4) dM_made_128 rfl ?_
    refine am_iload_n (i := 2) dM_made_130 rfl rfl ?_
    refine am_iload_n (i := 3) dM_made_131 rfl rfl ?_
    refine am_callV (ac' := 0) (as' := 0) (xs := [_, _, _]) dM_made_132 lkM_101 (by first | rfl | exact sk8 (by omega) | exact sk9 (by omega) | exact sk10 (by omega) | exact sk11 (by omega)) rfl rfl rfl rfl (Nat.le_of_ble_eq_true rfl) rfl rfl (cM_at (i0 := i0) (j0 := j0) (by omega) e3 rfl rfl (by omega) (by omega) (fun x ex => ?_))
    refine am_aload_n (i := 0) dM_made_135 rfl rfl ?_
    refine am_iload (i := 5) dM_made_136 rfl ?_
    refine am_iload_n (i := 2) dM_made_138 rfl rfl ?_
    refine am_iload_n (i := 3) dM_made_139 rfl rfl ?_
    refine am_callV (ac' := 0) (as' := 0) (xs := [_, _, _]) dM_made_140 lkM_101 (by first | rfl | exact sk8 (by omega) | exact sk9 (by omega) | exact sk10 (by omega) | exact sk11 (by omega)) rfl rfl rfl rfl (Nat.le_of_ble_eq_true rfl) rfl rfl (cM_at (i0 := i0) (j0 := j0) (by omega) e4 rfl rfl (by omega) (by omega) (fun y ey => ?_))
    refine am_iadd dM_made_143 ?_
    refine am_iret (st := []) rfl rfl dM_made_144 ?_
    rw [ex, ey, A1, A2]
    exact k _ (by unfold q_wc; rw [s22]; rfl)
  · refine am_tableIn (off := 123) (tgt := 145) dM_made_22 (by rw [s22]; decide) (by rw [s22]; decide) (by rw [s22]; rfl) (by decide) ?_
    obtain ⟨g3, e3⟩ := hb3.ix (hb5 (k2_of _ s22 (by decide))) (by omega)
    have hR := hR3 (k2_of _ s22 (by decide))
    have hda1 := (hP (ix (P v 3)) (by omega)).2.2.2.1
    have hda := (hP (ix (P v 3)) (by omega)).2.2.2.2
    obtain ⟨m1, m2, m3⟩ := q_dim_pos hda
    obtain ⟨l1, l2, l3⟩ := q_dim_pos hda1
    obtain ⟨g4, e4⟩ := hb4.ix (hb6 (Or.inr (Or.inl s22))) (by omega)
    have hS := hR4 (Or.inr (Or.inl s22))
    obtain ⟨x1, x2, x3⟩ := q_dim_pos (hP (ix (P v 4)) (by omega)).2.2.2.2
    obtain ⟨⟨f1, f2⟩, f3, f4⟩ := hcom.1 (Or.inr (Or.inl s22))
    have A1 := hR i0 j0 (by rw [← f1]; exact hi) (by rw [← f2]; exact hj)
    have A2 := hS i0 j0 (by rw [← f3]; exact hi) (by rw [← f4]; exact hj)
    refine am_aload_n (i := 0) dM_made_145 rfl rfl ?_
    refine am_iload (i := 4) dM_made_146 rfl ?_
    refine am_iload_n (i := 2) dM_made_148 rfl rfl ?_
    refine am_iload_n (i := 3) dM_made_149 rfl rfl ?_
    refine am_callV (ac' := 0) (as' := 0) (xs := [_, _, _]) dM_made_150 lkM_101 (by first | rfl | exact sk8 (by omega) | exact sk9 (by omega) | exact sk10 (by omega) | exact sk11 (by omega)) rfl rfl rfl rfl (Nat.le_of_ble_eq_true rfl) rfl rfl (cM_at (i0 := i0) (j0 := j0) (by omega) e3 rfl rfl (by omega) (by omega) (fun x ex => ?_))
    refine am_aload_n (i := 0) dM_made_153 rfl rfl ?_
    refine am_iload (i := 5) dM_made_154 rfl ?_
    refine am_iload_n (i := 2) dM_made_156 rfl rfl ?_
    refine am_iload_n (i := 3) dM_made_157 rfl rfl ?_
    refine am_callV (ac' := 0) (as' := 0) (xs := [_, _, _]) dM_made_158 lkM_101 (by first | rfl | exact sk8 (by omega) | exact sk9 (by omega) | exact sk10 (by omega) | exact sk11 (by omega)) rfl rfl rfl rfl (Nat.le_of_ble_eq_true rfl) rfl rfl (cM_at (i0 := i0) (j0 := j0) (by omega) e4 rfl rfl (by omega) (by omega) (fun y ey => ?_))
    refine am_imul dM_made_161 ?_
    refine am_iret (st := []) rfl rfl dM_made_162 ?_
    rw [ex, ey, A1, A2]
    exact k _ (by unfold q_wc; rw [s22]; rfl)
  · refine am_tableIn (off := 141) (tgt := 163) dM_made_22 (by rw [s22]; decide) (by rw [s22]; decide) (by rw [s22]; rfl) (by decide) ?_
    obtain ⟨g3, e3⟩ := hb3.ix (hb5 (k2_of _ s22 (by decide))) (by omega)
    have hR := hR3 (k2_of _ s22 (by decide))
    have hda1 := (hP (ix (P v 3)) (by omega)).2.2.2.1
    have hda := (hP (ix (P v 3)) (by omega)).2.2.2.2
    obtain ⟨m1, m2, m3⟩ := q_dim_pos hda
    obtain ⟨l1, l2, l3⟩ := q_dim_pos hda1
    obtain ⟨g4, e4⟩ := hb4.ix (hb6 (Or.inr (Or.inr (Or.inl s22)))) (by omega)
    have hS := hR4 (Or.inr (Or.inr (Or.inl s22)))
    obtain ⟨x1, x2, x3⟩ := q_dim_pos (hP (ix (P v 4)) (by omega)).2.2.2.2
    obtain ⟨⟨f1, f2⟩, f3, f4⟩ := hcom.1 (Or.inr (Or.inr s22))
    have A1 := hR i0 j0 (by rw [← f1]; exact hi) (by rw [← f2]; exact hj)
    have A2 := hS i0 j0 (by rw [← f3]; exact hi) (by rw [← f4]; exact hj)
    refine am_aload_n (i := 0) dM_made_163 rfl rfl ?_
    refine am_iload (i := 4) dM_made_164 rfl ?_
    refine am_iload_n (i := 2) dM_made_166 rfl rfl ?_
    refine am_iload_n (i := 3) dM_made_167 rfl rfl ?_
    refine am_callV (ac' := 0) (as' := 0) (xs := [_, _, _]) dM_made_168 lkM_101 (by first | rfl | exact sk8 (by omega) | exact sk9 (by omega) | exact sk10 (by omega) | exact sk11 (by omega)) rfl rfl rfl rfl (Nat.le_of_ble_eq_true rfl) rfl rfl (cM_at (i0 := i0) (j0 := j0) (by omega) e3 rfl rfl (by omega) (by omega) (fun x ex => ?_))
    refine am_aload_n (i := 0) dM_made_171 rfl rfl ?_
    refine am_iload (i := 5) dM_made_172 rfl ?_
    refine am_iload_n (i := 2) dM_made_174 rfl rfl ?_
    refine am_iload_n (i := 3) dM_made_175 rfl rfl ?_
    refine am_callV (ac' := 0) (as' := 0) (xs := [_, _, _]) dM_made_176 lkM_101 (by first | rfl | exact sk8 (by omega) | exact sk9 (by omega) | exact sk10 (by omega) | exact sk11 (by omega)) rfl rfl rfl rfl (Nat.le_of_ble_eq_true rfl) rfl rfl (cM_at (i0 := i0) (j0 := j0) (by omega) e4 rfl rfl (by omega) (by omega) (fun y ey => ?_))
    refine am_icmp_le (tgt := 193) dM_made_179 (by decide) (fun c179 => ?_) (fun c179 => ?_)
    · refine am_aload_n (i := 0) dM_made_193 rfl rfl ?_
      refine am_iload (i := 5) dM_made_194 rfl ?_
      refine am_iload_n (i := 2) dM_made_196 rfl rfl ?_
      refine am_iload_n (i := 3) dM_made_197 rfl rfl ?_
      refine am_callV (ac' := 0) (as' := 0) (xs := [_, _, _]) dM_made_198 lkM_101 (by first | rfl | exact sk8 (by omega) | exact sk9 (by omega) | exact sk10 (by omega) | exact sk11 (by omega)) rfl rfl rfl rfl (Nat.le_of_ble_eq_true rfl) rfl rfl (cM_at (i0 := i0) (j0 := j0) (by omega) e4 rfl rfl (by omega) (by omega) (fun z ez => ?_))
      refine am_iret (st := []) rfl rfl dM_made_201 ?_
      rw [A1] at ex
      rw [A2] at ey
      rw [A2] at ez
      exact k _ (by unfold q_wc; grind)
    · refine am_aload_n (i := 0) dM_made_182 rfl rfl ?_
      refine am_iload (i := 4) dM_made_183 rfl ?_
      refine am_iload_n (i := 2) dM_made_185 rfl rfl ?_
      refine am_iload_n (i := 3) dM_made_186 rfl rfl ?_
      refine am_callV (ac' := 0) (as' := 0) (xs := [_, _, _]) dM_made_187 lkM_101 (by first | rfl | exact sk8 (by omega) | exact sk9 (by omega) | exact sk10 (by omega) | exact sk11 (by omega)) rfl rfl rfl rfl (Nat.le_of_ble_eq_true rfl) rfl rfl (cM_at (i0 := i0) (j0 := j0) (by omega) e3 rfl rfl (by omega) (by omega) (fun z ez => ?_))
      refine am_goto (tgt := 201) dM_made_190 (by decide) ?_
      refine am_iret (st := []) rfl rfl dM_made_201 ?_
      rw [A1] at ex
      rw [A2] at ey
      rw [A1] at ez
      exact k _ (by unfold q_wc; grind)
  · refine am_tableIn (off := 180) (tgt := 202) dM_made_22 (by rw [s22]; decide) (by rw [s22]; decide) (by rw [s22]; rfl) (by decide) ?_
    obtain ⟨g3, e3⟩ := hb3.ix (hb5 (k2_of _ s22 (by decide))) (by omega)
    have hR := hR3 (k2_of _ s22 (by decide))
    have hda1 := (hP (ix (P v 3)) (by omega)).2.2.2.1
    have hda := (hP (ix (P v 3)) (by omega)).2.2.2.2
    obtain ⟨m1, m2, m3⟩ := q_dim_pos hda
    obtain ⟨l1, l2, l3⟩ := q_dim_pos hda1
    obtain ⟨f1, f2⟩ := hcom.2.1 s22
    have A1 := hR i0 j0 (by rw [← f1]; exact hi) (by rw [← f2]; exact hj)
    refine am_aload_n (i := 0) dM_made_202 rfl rfl ?_
    refine am_iload (i := 4) dM_made_203 rfl ?_
    refine am_iload_n (i := 2) dM_made_205 rfl rfl ?_
    refine am_iload_n (i := 3) dM_made_206 rfl rfl ?_
    refine am_callV (ac' := 0) (as' := 0) (xs := [_, _, _]) dM_made_207 lkM_101 (by first | rfl | exact sk8 (by omega) | exact sk9 (by omega) | exact sk10 (by omega) | exact sk11 (by omega)) rfl rfl rfl rfl (Nat.le_of_ble_eq_true rfl) rfl rfl (cM_at (i0 := i0) (j0 := j0) (by omega) e3 rfl rfl (by omega) (by omega) (fun x ex => ?_))
    refine am_ineg dM_made_210 ?_
    refine am_iret (st := []) rfl rfl dM_made_211 ?_
    rw [ex, A1]
    exact k _ (by unfold q_wc; rw [s22]; rfl)
  · refine am_tableIn (off := 190) (tgt := 212) dM_made_22 (by rw [s22]; decide) (by rw [s22]; decide) (by rw [s22]; rfl) (by decide) ?_
    obtain ⟨g3, e3⟩ := hb3.ix (hb5 (k2_of _ s22 (by decide))) (by omega)
    have hR := hR3 (k2_of _ s22 (by decide))
    have hda1 := (hP (ix (P v 3)) (by omega)).2.2.2.1
    have hda := (hP (ix (P v 3)) (by omega)).2.2.2.2
    obtain ⟨m1, m2, m3⟩ := q_dim_pos hda
    obtain ⟨l1, l2, l3⟩ := q_dim_pos hda1
    obtain ⟨f1, f2⟩ := hcom.2.2.1 s22
    have A1 := hR j0 i0 (by rw [← f2]; exact hj) (by rw [← f1]; exact hi)
    refine am_aload_n (i := 0) dM_made_212 rfl rfl ?_
    refine am_iload (i := 4) dM_made_213 rfl ?_
    refine am_iload_n (i := 3) dM_made_215 rfl rfl ?_
    refine am_iload_n (i := 2) dM_made_216 rfl rfl ?_
    refine am_callV (ac' := 0) (as' := 0) (xs := [_, _, _]) dM_made_217 lkM_101 (by first | rfl | exact sk8 (by omega) | exact sk9 (by omega) | exact sk10 (by omega) | exact sk11 (by omega)) rfl rfl rfl rfl (Nat.le_of_ble_eq_true rfl) rfl rfl (cM_at (i0 := j0) (j0 := i0) (by omega) e3 rfl rfl (by omega) (by omega) (fun x ex => ?_))
    refine am_iret (st := []) rfl rfl dM_made_220 ?_
    rw [ex, A1]
    exact k _ (by unfold q_wc; rw [s22]; rfl)
  · refine am_tableIn (off := 199) (tgt := 221) dM_made_22 (by rw [s22]; decide) (by rw [s22]; decide) (by rw [s22]; rfl) (by decide) ?_
    refine am_aload_n (i := 0) dM_made_221 rfl rfl ?_
    refine am_iload_n (i := 1) dM_made_222 rfl rfl ?_
    refine am_iload_n (i := 2) dM_made_223 rfl rfl ?_
    refine am_iload_n (i := 3) dM_made_224 rfl rfl ?_
    refine am_callV (ac' := 0) (as' := 0) (xs := [_, _, _]) dM_made_225 lkM_105 (by first | rfl | exact sk8 (by omega) | exact sk9 (by omega) | exact sk10 (by omega) | exact sk11 (by omega)) rfl rfl rfl rfl (Nat.le_of_ble_eq_true rfl) rfl rfl (cM_total8 (pr := pr) hn hP hv hi hj hR3 hR4 s22 (fun x ex => ?_))
    refine am_iret (st := []) rfl rfl dM_made_228 ?_
    exact k _ ex
  · refine am_tableIn (off := 207) (tgt := 229) dM_made_22 (by rw [s22]; decide) (by rw [s22]; decide) (by rw [s22]; rfl) (by decide) ?_
    refine am_aload_n (i := 0) dM_made_229 rfl rfl ?_
    refine am_iload_n (i := 1) dM_made_230 rfl rfl ?_
    refine am_iload_n (i := 2) dM_made_231 rfl rfl ?_
    refine am_iload_n (i := 3) dM_made_232 rfl rfl ?_
    refine am_callV (ac' := 0) (as' := 0) (xs := [_, _, _]) dM_made_233 lkM_105 (by first | rfl | exact sk8 (by omega) | exact sk9 (by omega) | exact sk10 (by omega) | exact sk11 (by omega)) rfl rfl rfl rfl (Nat.le_of_ble_eq_true rfl) rfl rfl (cM_total9 (pr := pr) hn hP hv hi hj hR3 hR4 s22 (fun x ex => ?_))
    refine am_iret (st := []) rfl rfl dM_made_236 ?_
    exact k _ ex
  · refine am_tableIn (off := 215) (tgt := 237) dM_made_22 (by rw [s22]; decide) (by rw [s22]; decide) (by rw [s22]; rfl) (by decide) ?_
    obtain ⟨g3, e3⟩ := hb3.ix (hb5 (k2_of _ s22 (by decide))) (by omega)
    have hR := hR3 (k2_of _ s22 (by decide))
    have hda1 := (hP (ix (P v 3)) (by omega)).2.2.2.1
    have hda := (hP (ix (P v 3)) (by omega)).2.2.2.2
    obtain ⟨m1, m2, m3⟩ := q_dim_pos hda
    obtain ⟨l1, l2, l3⟩ := q_dim_pos hda1
    obtain ⟨f1, f2⟩ := hcom.2.2.2.2.2.1 s22
    have A1 := hR (if P (ix (P v 3)) 1 = 1 then 0 else i0) (if P (ix (P v 3)) 2 = 1 then 0 else j0) (by
      split
      · omega
      · rename_i q; rw [f1.resolve_left q]; exact hi) (by
      split
      · omega
      · rename_i q; rw [f2.resolve_left q]; exact hj)
    refine am_aload_n (i := 0) dM_made_237 rfl rfl ?_
    refine am_iload (i := 4) dM_made_238 rfl ?_
    refine am_aload_n (i := 0) dM_made_240 rfl rfl ?_
    refine am_getf dM_made_241 flM_25 (by first | rfl | exact sk8 (by omega) | exact sk9 (by omega) | exact sk10 (by omega) | exact sk11 (by omega)) rfl ?_
    refine am_iload (i := 4) dM_made_244 rfl ?_
    refine am_iald dM_made_246 (by first | rfl | exact sk8 (by omega) | exact sk9 (by omega) | exact sk10 (by omega) | exact sk11 (by omega)) e3 (by first | omega | assumption | decide) (by decide) (by decide) (by first | exact congrArg am_I (mkd_lo (by omega)) | exact congrArg am_I (mkd_hi (by omega)) | rfl) ?_
    refine am_iconst (v := 1) dM_made_247 (by decide) ?_
    refine am_icmp_ne (tgt := 255) dM_made_248 (by decide) (fun c248 => ?_) (fun c248 => ?_)
    · refine am_iload_n (i := 2) dM_made_255 rfl rfl ?_
      refine am_aload_n (i := 0) dM_made_256 rfl rfl ?_
      refine am_getf dM_made_257 flM_28 (by first | rfl | exact sk8 (by omega) | exact sk9 (by omega) | exact sk10 (by omega) | exact sk11 (by omega)) rfl ?_
      refine am_iload (i := 4) dM_made_260 rfl ?_
      refine am_iald dM_made_262 (by first | rfl | exact sk8 (by omega) | exact sk9 (by omega) | exact sk10 (by omega) | exact sk11 (by omega)) e3 (by first | omega | assumption | decide) (by decide) (by decide) (by first | exact congrArg am_I (mkd_lo (by omega)) | exact congrArg am_I (mkd_hi (by omega)) | rfl) ?_
      refine am_iconst (v := 1) dM_made_263 (by decide) ?_
      refine am_icmp_ne (tgt := 271) dM_made_264 (by decide) (fun c264 => ?_) (fun c264 => ?_)
      · refine am_iload_n (i := 3) dM_made_271 rfl rfl ?_
        refine am_callV (ac' := 0) (as' := 0) (xs := [_, _, _]) dM_made_272 lkM_101 (by first | rfl | exact sk8 (by omega) | exact sk9 (by omega) | exact sk10 (by omega) | exact sk11 (by omega)) rfl rfl rfl rfl (Nat.le_of_ble_eq_true rfl) rfl rfl (cM_at (i0 := i0) (j0 := j0) (by omega) e3 rfl rfl (by omega) (by omega) (fun x ex => ?_))
        refine am_iret (st := []) rfl rfl dM_made_275 ?_
        rw [ex]
        rw [if_neg c248, if_neg c264] at A1
        rw [A1]
        exact k _ (by
          unfold q_wc
          rw [s22]
          show _ = q_at P cl (ix (P v 3)) (if P (ix (P v 3)) 1 = 1 then 0 else i0) (if P (ix (P v 3)) 2 = 1 then 0 else j0)
          rw [if_neg c248, if_neg c264])
      · refine am_iconst (v := 0) dM_made_267 (by decide) ?_
        refine am_goto (tgt := 272) dM_made_268 (by decide) ?_
        refine am_callV (ac' := 0) (as' := 0) (xs := [_, _, _]) dM_made_272 lkM_101 (by first | rfl | exact sk8 (by omega) | exact sk9 (by omega) | exact sk10 (by omega) | exact sk11 (by omega)) rfl rfl rfl rfl (Nat.le_of_ble_eq_true rfl) rfl rfl (cM_at (i0 := i0) (j0 := 0) (by omega) e3 rfl rfl (by omega) (by omega) (fun x ex => ?_))
        refine am_iret (st := []) rfl rfl dM_made_275 ?_
        rw [ex]
        rw [if_neg c248, if_pos c264] at A1
        rw [A1]
        exact k _ (by
          unfold q_wc
          rw [s22]
          show _ = q_at P cl (ix (P v 3)) (if P (ix (P v 3)) 1 = 1 then 0 else i0) (if P (ix (P v 3)) 2 = 1 then 0 else j0)
          rw [if_neg c248, if_pos c264])
    · refine am_iconst (v := 0) dM_made_251 (by decide) ?_
      refine am_goto (tgt := 256) dM_made_252 (by decide) ?_
      refine am_aload_n (i := 0) dM_made_256 rfl rfl ?_
      refine am_getf dM_made_257 flM_28 (by first | rfl | exact sk8 (by omega) | exact sk9 (by omega) | exact sk10 (by omega) | exact sk11 (by omega)) rfl ?_
      refine am_iload (i := 4) dM_made_260 rfl ?_
      refine am_iald dM_made_262 (by first | rfl | exact sk8 (by omega) | exact sk9 (by omega) | exact sk10 (by omega) | exact sk11 (by omega)) e3 (by first | omega | assumption | decide) (by decide) (by decide) (by first | exact congrArg am_I (mkd_lo (by omega)) | exact congrArg am_I (mkd_hi (by omega)) | rfl) ?_
      refine am_iconst (v := 1) dM_made_263 (by decide) ?_
      refine am_icmp_ne (tgt := 271) dM_made_264 (by decide) (fun c264 => ?_) (fun c264 => ?_)
      · refine am_iload_n (i := 3) dM_made_271 rfl rfl ?_
        refine am_callV (ac' := 0) (as' := 0) (xs := [_, _, _]) dM_made_272 lkM_101 (by first | rfl | exact sk8 (by omega) | exact sk9 (by omega) | exact sk10 (by omega) | exact sk11 (by omega)) rfl rfl rfl rfl (Nat.le_of_ble_eq_true rfl) rfl rfl (cM_at (i0 := 0) (j0 := j0) (by omega) e3 rfl rfl (by omega) (by omega) (fun x ex => ?_))
        refine am_iret (st := []) rfl rfl dM_made_275 ?_
        rw [ex]
        rw [if_pos c248, if_neg c264] at A1
        rw [A1]
        exact k _ (by
          unfold q_wc
          rw [s22]
          show _ = q_at P cl (ix (P v 3)) (if P (ix (P v 3)) 1 = 1 then 0 else i0) (if P (ix (P v 3)) 2 = 1 then 0 else j0)
          rw [if_pos c248, if_neg c264])
      · refine am_iconst (v := 0) dM_made_267 (by decide) ?_
        refine am_goto (tgt := 272) dM_made_268 (by decide) ?_
        refine am_callV (ac' := 0) (as' := 0) (xs := [_, _, _]) dM_made_272 lkM_101 (by first | rfl | exact sk8 (by omega) | exact sk9 (by omega) | exact sk10 (by omega) | exact sk11 (by omega)) rfl rfl rfl rfl (Nat.le_of_ble_eq_true rfl) rfl rfl (cM_at (i0 := 0) (j0 := 0) (by omega) e3 rfl rfl (by omega) (by omega) (fun x ex => ?_))
        refine am_iret (st := []) rfl rfl dM_made_275 ?_
        rw [ex]
        rw [if_pos c248, if_pos c264] at A1
        rw [A1]
        exact k _ (by
          unfold q_wc
          rw [s22]
          show _ = q_at P cl (ix (P v 3)) (if P (ix (P v 3)) 1 = 1 then 0 else i0) (if P (ix (P v 3)) 2 = 1 then 0 else j0)
          rw [if_pos c248, if_pos c264])
  · refine am_tableIn (off := 254) (tgt := 276) dM_made_22 (by rw [s22]; decide) (by rw [s22]; decide) (by rw [s22]; rfl) (by decide) ?_
    obtain ⟨g3, e3⟩ := hb3.ix (hb5 (k2_of _ s22 (by decide))) (by omega)
    have hR := hR3 (k2_of _ s22 (by decide))
    have hda1 := (hP (ix (P v 3)) (by omega)).2.2.2.1
    have hda := (hP (ix (P v 3)) (by omega)).2.2.2.2
    obtain ⟨m1, m2, m3⟩ := q_dim_pos hda
    obtain ⟨l1, l2, l3⟩ := q_dim_pos hda1
    have f1 := hcom.2.2.2.2.2.2.1 s22
    have fm := q_dim_mul hda1 hda hdr hdc f1
    have hb16 := q_b16 (i := i0) (j := j0) (by omega) c2 (by omega)
    have hlt : i0 * ix (P v 2) + j0 < ix (P v 1) * ix (P v 2) := by
      have := Nat.mul_le_mul_right (ix (P v 2)) (show i0 + 1 ≤ ix (P v 1) from hi)
      rw [Nat.succ_mul] at this
      omega
    have hq1 : (i0 * ix (P v 2) + j0) / ix (P (ix (P v 3)) 2) < ix (P (ix (P v 3)) 1) := Nat.div_lt_of_lt_mul (by rw [Nat.mul_comm (ix (P (ix (P v 3)) 2)), fm]; exact hlt)
    have hq2 : (i0 * ix (P v 2) + j0) % ix (P (ix (P v 3)) 2) < ix (P (ix (P v 3)) 2) := Nat.mod_lt _ (by omega)
    have A1 := hR _ _ hq1 hq2
    have eidx : nI i0 * P v 2 + nI j0 = nI (i0 * ix (P v 2) + j0) := (congrArg (fun z => nI i0 * z + nI j0) c3).trans (nI_ij _ _ _)
    refine am_aload_n (i := 0) dM_made_276 rfl rfl ?_
    refine am_iload (i := 4) dM_made_277 rfl ?_
    refine am_iload_n (i := 2) dM_made_279 rfl rfl ?_
    refine am_aload_n (i := 0) dM_made_280 rfl rfl ?_
    refine am_getf dM_made_281 flM_28 (by first | rfl | exact sk8 (by omega) | exact sk9 (by omega) | exact sk10 (by omega) | exact sk11 (by omega)) rfl ?_
    refine am_iload_n (i := 1) dM_made_284 rfl rfl ?_
    refine am_iald dM_made_285 (by first | rfl | exact sk8 (by omega) | exact sk9 (by omega) | exact sk10 (by omega) | exact sk11 (by omega)) rfl (by first | omega | assumption | decide) (by decide) (by decide) (by first | exact congrArg am_I (mkd_lo (by omega)) | exact congrArg am_I (mkd_hi (by omega)) | rfl) ?_
    refine am_imul dM_made_286 ?_
    refine am_iload_n (i := 3) dM_made_287 rfl rfl ?_
    refine am_iadd dM_made_288 ?_
    refine am_sT (st' := am_I (nI (i0 * ix (P v 2) + j0)) :: _) (congrArg (fun z => am_I z :: _) eidx) ?_
    refine am_aload_n (i := 0) dM_made_289 rfl rfl ?_
    refine am_getf dM_made_290 flM_28 (by first | rfl | exact sk8 (by omega) | exact sk9 (by omega) | exact sk10 (by omega) | exact sk11 (by omega)) rfl ?_
    refine am_iload (i := 4) dM_made_293 rfl ?_
    refine am_iald dM_made_295 (by first | rfl | exact sk8 (by omega) | exact sk9 (by omega) | exact sk10 (by omega) | exact sk11 (by omega)) e3 (by first | omega | assumption | decide) (by decide) (by decide) (by first | exact congrArg am_I (mkd_lo (by omega)) | exact congrArg am_I (mkd_hi (by omega)) | rfl) ?_
    refine am_idiv dM_made_296 (q_dim_nz hda) ?_
    refine am_sT (st' := am_I (nI ((i0 * ix (P v 2) + j0) / ix (P (ix (P v 3)) 2))) :: _) (congrArg (fun z => am_I z :: _) (pk_divP (by omega) hda)) ?_
    refine am_iload_n (i := 2) dM_made_297 rfl rfl ?_
    refine am_aload_n (i := 0) dM_made_298 rfl rfl ?_
    refine am_getf dM_made_299 flM_28 (by first | rfl | exact sk8 (by omega) | exact sk9 (by omega) | exact sk10 (by omega) | exact sk11 (by omega)) rfl ?_
    refine am_iload_n (i := 1) dM_made_302 rfl rfl ?_
    refine am_iald dM_made_303 (by first | rfl | exact sk8 (by omega) | exact sk9 (by omega) | exact sk10 (by omega) | exact sk11 (by omega)) rfl (by first | omega | assumption | decide) (by decide) (by decide) (by first | exact congrArg am_I (mkd_lo (by omega)) | exact congrArg am_I (mkd_hi (by omega)) | rfl) ?_
    refine am_imul dM_made_304 ?_
    refine am_iload_n (i := 3) dM_made_305 rfl rfl ?_
    refine am_iadd dM_made_306 ?_
    refine am_sT (st' := am_I (nI (i0 * ix (P v 2) + j0)) :: _) (congrArg (fun z => am_I z :: _) eidx) ?_
    refine am_aload_n (i := 0) dM_made_307 rfl rfl ?_
    refine am_getf dM_made_308 flM_28 (by first | rfl | exact sk8 (by omega) | exact sk9 (by omega) | exact sk10 (by omega) | exact sk11 (by omega)) rfl ?_
    refine am_iload (i := 4) dM_made_311 rfl ?_
    refine am_iald dM_made_313 (by first | rfl | exact sk8 (by omega) | exact sk9 (by omega) | exact sk10 (by omega) | exact sk11 (by omega)) e3 (by first | omega | assumption | decide) (by decide) (by decide) (by first | exact congrArg am_I (mkd_lo (by omega)) | exact congrArg am_I (mkd_hi (by omega)) | rfl) ?_
    refine am_irem dM_made_314 (q_dim_nz hda) ?_
    refine am_sT (st' := am_I (nI ((i0 * ix (P v 2) + j0) % ix (P (ix (P v 3)) 2))) :: _) (congrArg (fun z => am_I z :: _) (pk_remP (by omega) hda)) ?_
    refine am_callV (ac' := 0) (as' := 0) (xs := [_, _, _]) dM_made_315 lkM_101 (by first | rfl | exact sk8 (by omega) | exact sk9 (by omega) | exact sk10 (by omega) | exact sk11 (by omega)) rfl rfl rfl rfl (Nat.le_of_ble_eq_true rfl) rfl rfl (cM_at (i0 := ((i0 * ix (P v 2) + j0) / ix (P (ix (P v 3)) 2))) (j0 := ((i0 * ix (P v 2) + j0) % ix (P (ix (P v 3)) 2))) (by omega) e3 rfl rfl (by omega) (by omega) (fun x ex => ?_))
    refine am_iret (st := []) rfl rfl dM_made_318 ?_
    rw [ex, A1]
    exact k _ (by
      unfold q_wc
      rw [s22]
      show q_at P cl (ix (P v 3)) _ _ = cl (ix (P v 3)) (i0 * ix (P v 2) + j0)
      unfold q_at
      rw [Nat.div_add_mod'])
  · refine am_tableOut (tgt := 319) dM_made_22 s22 (by decide) ?_
    have s12 : P v 0 = 12 := q_kind12 hkd s22
    obtain ⟨g3, e3⟩ := hb3.ix (hb5 (k2_of _ s12 (by decide))) (by omega)
    have hR := hR3 (k2_of _ s12 (by decide))
    have hda1 := (hP (ix (P v 3)) (by omega)).2.2.2.1
    have hda := (hP (ix (P v 3)) (by omega)).2.2.2.2
    obtain ⟨m1, m2, m3⟩ := q_dim_pos hda
    obtain ⟨l1, l2, l3⟩ := q_dim_pos hda1
    obtain ⟨p0, q0, ep0, eq0, lp, lq⟩ := hcom.2.2.2.2.2.2.2.1 s12
    have A1 := hR (p0 + i0) (q0 + j0) (by omega) (by omega)
    refine am_aload_n (i := 0) dM_made_319 rfl rfl ?_
    refine am_iload (i := 4) dM_made_320 rfl ?_
    refine am_iload_n (i := 2) dM_made_322 rfl rfl ?_
    refine am_aload_n (i := 0) dM_made_323 rfl rfl ?_
    refine am_getf dM_made_324 flM_19 (by first | rfl | exact sk8 (by omega) | exact sk9 (by omega) | exact sk10 (by omega) | exact sk11 (by omega)) rfl ?_
    refine am_iload_n (i := 1) dM_made_327 rfl rfl ?_
    refine am_iald dM_made_328 (by first | rfl | exact sk8 (by omega) | exact sk9 (by omega) | exact sk10 (by omega) | exact sk11 (by omega)) rfl (by first | omega | assumption | decide) (by decide) (by decide) (by first | exact congrArg am_I (mkd_lo (by omega)) | exact congrArg am_I (mkd_hi (by omega)) | rfl) ?_
    refine am_iadd dM_made_329 ?_
    refine am_iload_n (i := 3) dM_made_330 rfl rfl ?_
    refine am_aload_n (i := 0) dM_made_331 rfl rfl ?_
    refine am_getf dM_made_332 flM_22 (by first | rfl | exact sk8 (by omega) | exact sk9 (by omega) | exact sk10 (by omega) | exact sk11 (by omega)) rfl ?_
    refine am_iload_n (i := 1) dM_made_335 rfl rfl ?_
    refine am_iald dM_made_336 (by first | rfl | exact sk8 (by omega) | exact sk9 (by omega) | exact sk10 (by omega) | exact sk11 (by omega)) rfl (by first | omega | assumption | decide) (by decide) (by decide) (by first | exact congrArg am_I (mkd_lo (by omega)) | exact congrArg am_I (mkd_hi (by omega)) | rfl) ?_
    refine am_iadd dM_made_337 ?_
    refine am_callV (ac' := 0) (as' := 0) (xs := [_, _, _]) dM_made_338 lkM_101 (by first | rfl | exact sk8 (by omega) | exact sk9 (by omega) | exact sk10 (by omega) | exact sk11 (by omega)) rfl rfl rfl rfl (Nat.le_of_ble_eq_true rfl) rfl rfl (cM_at (i0 := (p0 + i0)) (j0 := (q0 + j0)) (by omega) e3 (by rw [ep0, nI_add, Nat.add_comm]) (by rw [eq0, nI_add, Nat.add_comm]) (by omega) (by omega) (fun x ex => ?_))
    refine am_iret (st := []) rfl rfl dM_made_341 ?_
    rw [ex, A1]
    exact k _ (by rw [q_wc12 s12, ep0, eq0, ix_nI (by omega), ix_nI (by omega)])
/-! live values have live arguments -/
theorem q_mkl_mono {l : Nat → Int32} {x : Int32} {u : Nat} (h : ¬ l u = 0) : ¬ q_mkl l x u = 0 := by
  unfold q_mkl
  split
  · exact h
  · unfold upd
    split
    · decide
    · exact h
theorem q_mkl_set {l : Nat → Int32} {x : Int32} (h : ¬ x = -1) : ¬ q_mkl l x (ix x) = 0 := by
  unfold q_mkl
  rw [if_neg h, upd_eq]
  decide
theorem q_fl2_mono {P : Nat → Nat → Int32} : ∀ (j : Nat) (l : Nat → Int32) (u : Nat), ¬ l u = 0 → ¬ q_fl2 P j l u = 0 := by
  intro j
  induction j with
  | zero => intro l u h; exact h
  | succ j ih =>
    intro l u h
    show ¬ q_fl2 P j (if l j = 0 then l else q_mkl (q_mkl l (P j 3)) (P j 4)) u = 0
    refine ih _ u ?_
    split
    · exact h
    · exact q_mkl_mono (q_mkl_mono h)
theorem q_fl2_arg {P : Nat → Nat → Int32} {n v : Nat} (hn : n ≤ 28) (hP : ∀ m, m < n → q_arg (P m 3) m ∧ q_arg (P m 4) m) : ∀ (j : Nat) (l : Nat → Int32), j ≤ n → v < j → ¬ q_fl2 P j l v = 0 → (¬ P v 3 = -1 → ¬ q_fl2 P j l (ix (P v 3)) = 0) ∧ (¬ P v 4 = -1 → ¬ q_fl2 P j l (ix (P v 4)) = 0) := by
  intro j
  induction j with
  | zero => intro l _ h; omega
  | succ j ih =>
    intro l hj hvj hF
    by_cases e : v = j
    · subst e
      rw [q_fl2_ge hn hP (v + 1) l v hj (by omega)] at hF
      show (¬ P v 3 = -1 → ¬ q_fl2 P v (if l v = 0 then l else q_mkl (q_mkl l (P v 3)) (P v 4)) (ix (P v 3)) = 0) ∧ (¬ P v 4 = -1 → ¬ q_fl2 P v (if l v = 0 then l else q_mkl (q_mkl l (P v 3)) (P v 4)) (ix (P v 4)) = 0)
      rw [if_neg hF]
      exact ⟨fun h3 => q_fl2_mono v _ _ (q_mkl_mono (q_mkl_set h3)), fun h4 => q_fl2_mono v _ _ (q_mkl_set h4)⟩
    · exact ih _ (by omega) (by omega) hF
def q_wd1 (n : Nat) (lv wd : Nat → Int32) : Nat → Int32 := fun v => if v < n then (if lv v = 0 then 0 else 1) else wd v
theorem q_rel_o {P cl cl' : Nat → Nat → Int32} {ce ce' : Nat → Int32} {a v : Nat} (hav : a ≠ v) (h : q_rel P cl ce a) (hc : ∀ k, cl' a k = cl a k) (he : ∀ t, t < 16 → ce' (a * 16 + t) = ce (a * 16 + t)) (hd1 : q_dim (P a 1)) (hd2 : q_dim (P a 2)) : q_rel P cl' ce' a := fun i j hi hj => by
  have := q_dim_pos hd1
  have := q_dim_pos hd2
  rw [Nat.add_assoc, he _ (by omega), ← Nat.add_assoc, h i j hi hj]
  unfold q_at
  rw [hc]
set_option maxRecDepth 100000 in
set_option maxHeartbeats 4000000 in
theorem lpM_work1 {g : am_G} {d : Nat} {Q : Option am_V → am_H → Prop} {X : Nat → Nat → Nat → am_V} {A P : Nat → Nat → Int32} {st mk pa ce0 wd us : Nat → Int32} {si : Int32} {n : Nat} {cl pr : Nat → Nat → Int32} {v : Nat} (hn : n ≤ 28) (hP : ∀ u, u < n → q_ok P u) (hv : v < n) (hpa : q_par pr pa) (hR3 : 2 < P v 0 → q_rel P cl ce0 (ix (P v 3))) (hR4 : (P v 0 = 3 ∨ P v 0 = 4 ∨ P v 0 = 5 ∨ P v 0 = 8) → q_rel P cl ce0 (ix (P v 4))) {s : Int32} (K : ∀ ce : Nat → Int32, (∀ t, t < ix (P v 1) * ix (P v 2) → ce (v * 16 + t / ix (P v 2) * 4 + t % ix (P v 2)) = q_wc P pr cl v (t / ix (P v 2)) (t % ix (P v 2))) → (∀ u t, u ≠ v → t < 16 → ce (u * 16 + t) = ce0 (u * 16 + t)) → ∀ o : Option am_V, am_T g mM_work (d + 3) 0 0 115 [some (am_O 20 0), some (am_I (s)), some (am_I (nI v)), o] [] (hm X (ym A P st mk pa ce wd us (nI n) si)) Q) : ∀ (j k : Nat), k + j = ix (P v 1) * ix (P v 2) → ∀ (ce : Nat → Int32), (∀ t, t < k → ce (v * 16 + t / ix (P v 2) * 4 + t % ix (P v 2)) = q_wc P pr cl v (t / ix (P v 2)) (t % ix (P v 2))) → (∀ u t, u ≠ v → t < 16 → ce (u * 16 + t) = ce0 (u * 16 + t)) → ∀ x : Int32, x = nI k → am_T g mM_work (d + 3) 0 0 42 [some (am_O 20 0), some (am_I (s)), some (am_I (nI v)), some (am_I x)] [] (hm X (ym A P st mk pa ce wd us (nI n) si)) Q := by
  obtain ⟨⟨hb3, hb4, hb5, hb6⟩, hcom, hkd, hdr, hdc⟩ := hP v hv
  obtain ⟨r1, r2, r3⟩ := q_dim_pos hdr
  obtain ⟨c1, c2, c3⟩ := q_dim_pos hdc
  have hrc := Nat.mul_le_mul r2 c2
  have eprod : P v 1 * P v 2 = nI (ix (P v 1) * ix (P v 2)) := (congrArg (fun q => q * P v 2) r3).trans ((congrArg (fun q => nI (ix (P v 1)) * q) c3).trans (pk_mul _ _))
  intro j
  induction j with
  | zero =>
    intro k hkj ce h1 h2 x hx
    subst hx
    refine am_iload_n (i := 3) dM_work_42 rfl rfl ?_
    refine am_aload_n (i := 0) dM_work_43 rfl rfl ?_
    refine am_getf dM_work_44 flM_25 (by first | rfl | exact sk8 (by omega) | exact sk9 (by omega) | exact sk10 (by omega) | exact sk11 (by omega)) rfl ?_
    refine am_iload_n (i := 2) dM_work_47 rfl rfl ?_
    refine am_iald dM_work_48 (by first | rfl | exact sk8 (by omega) | exact sk9 (by omega) | exact sk10 (by omega) | exact sk11 (by omega)) rfl (by first | omega | assumption | decide) (by decide) (by decide) (by first | exact congrArg am_I (mkd_lo (by omega)) | exact congrArg am_I (mkd_hi (by omega)) | rfl) ?_
    refine am_aload_n (i := 0) dM_work_49 rfl rfl ?_
    refine am_getf dM_work_50 flM_28 (by first | rfl | exact sk8 (by omega) | exact sk9 (by omega) | exact sk10 (by omega) | exact sk11 (by omega)) rfl ?_
    refine am_iload_n (i := 2) dM_work_53 rfl rfl ?_
    refine am_iald dM_work_54 (by first | rfl | exact sk8 (by omega) | exact sk9 (by omega) | exact sk10 (by omega) | exact sk11 (by omega)) rfl (by first | omega | assumption | decide) (by decide) (by decide) (by first | exact congrArg am_I (mkd_lo (by omega)) | exact congrArg am_I (mkd_hi (by omega)) | rfl) ?_
    refine am_imul dM_work_55 ?_
    refine am_icmp_ge_T (tgt := 115) dM_work_56 (by decide) (by rw [eprod]; exact ((nI_le' (by omega) (by omega)).mpr (by omega))) ?_
    have e : k = ix (P v 1) * ix (P v 2) := by omega
    subst e
    exact K ce h1 h2 _
  | succ j ih =>
    intro k hkj ce h1 h2 x hx
    subst hx
    refine am_iload_n (i := 3) dM_work_42 rfl rfl ?_
    refine am_aload_n (i := 0) dM_work_43 rfl rfl ?_
    refine am_getf dM_work_44 flM_25 (by first | rfl | exact sk8 (by omega) | exact sk9 (by omega) | exact sk10 (by omega) | exact sk11 (by omega)) rfl ?_
    refine am_iload_n (i := 2) dM_work_47 rfl rfl ?_
    refine am_iald dM_work_48 (by first | rfl | exact sk8 (by omega) | exact sk9 (by omega) | exact sk10 (by omega) | exact sk11 (by omega)) rfl (by first | omega | assumption | decide) (by decide) (by decide) (by first | exact congrArg am_I (mkd_lo (by omega)) | exact congrArg am_I (mkd_hi (by omega)) | rfl) ?_
    refine am_aload_n (i := 0) dM_work_49 rfl rfl ?_
    refine am_getf dM_work_50 flM_28 (by first | rfl | exact sk8 (by omega) | exact sk9 (by omega) | exact sk10 (by omega) | exact sk11 (by omega)) rfl ?_
    refine am_iload_n (i := 2) dM_work_53 rfl rfl ?_
    refine am_iald dM_work_54 (by first | rfl | exact sk8 (by omega) | exact sk9 (by omega) | exact sk10 (by omega) | exact sk11 (by omega)) rfl (by first | omega | assumption | decide) (by decide) (by decide) (by first | exact congrArg am_I (mkd_lo (by omega)) | exact congrArg am_I (mkd_hi (by omega)) | rfl) ?_
    refine am_imul dM_work_55 ?_
    refine am_icmp_ge_F (tgt := 115) dM_work_56 (by decide) (by rw [eprod]; exact (fun q => absurd ((nI_le' (by omega) (by omega)).mp q) (by omega))) ?_
    have hk : k < ix (P v 1) * ix (P v 2) := by omega
    have q1 : k / ix (P v 2) < ix (P v 1) := Nat.div_lt_of_lt_mul (by rw [Nat.mul_comm]; exact hk)
    have q2 : k % ix (P v 2) < ix (P v 2) := Nat.mod_lt _ (by omega)
    have keep : ∀ a, a ≠ v → a < n → q_rel P cl ce0 a → q_rel P cl ce a := fun a ha hn' h => q_rel_o ha h (fun _ => rfl) (fun t ht => h2 a t ha ht) (hP a hn').2.2.2.1 (hP a hn').2.2.2.2
    have R3 : 2 < P v 0 → q_rel P cl ce (ix (P v 3)) := fun q => by
      have := (hb3.ix (hb5 q) (by omega)).1
      exact keep _ (by omega) (by omega) (hR3 q)
    have R4 : (P v 0 = 3 ∨ P v 0 = 4 ∨ P v 0 = 5 ∨ P v 0 = 8) → q_rel P cl ce (ix (P v 4)) := fun q => by
      have := (hb4.ix (hb6 q) (by omega)).1
      exact keep _ (by omega) (by omega) (hR4 q)
    refine am_aload_n (i := 0) dM_work_59 rfl rfl ?_
    refine am_getf dM_work_60 flM_41 (by first | rfl | exact sk8 (by omega) | exact sk9 (by omega) | exact sk10 (by omega) | exact sk11 (by omega)) rfl ?_
    refine am_iload_n (i := 2) dM_work_63 rfl rfl ?_
    refine am_bipush (v := 16) dM_work_64 (by decide) ?_
    refine am_imul dM_work_66 ?_
    refine am_iload_n (i := 3) dM_work_67 rfl rfl ?_
    refine am_aload_n (i := 0) dM_work_68 rfl rfl ?_
    refine am_getf dM_work_69 flM_28 (by first | rfl | exact sk8 (by omega) | exact sk9 (by omega) | exact sk10 (by omega) | exact sk11 (by omega)) rfl ?_
    refine am_iload_n (i := 2) dM_work_72 rfl rfl ?_
    refine am_iald dM_work_73 (by first | rfl | exact sk8 (by omega) | exact sk9 (by omega) | exact sk10 (by omega) | exact sk11 (by omega)) rfl (by first | omega | assumption | decide) (by decide) (by decide) (by first | exact congrArg am_I (mkd_lo (by omega)) | exact congrArg am_I (mkd_hi (by omega)) | rfl) ?_
    refine am_idiv dM_work_74 (q_dim_nz hdc) ?_
    refine am_sT (st' := am_I (nI (k / ix (P v 2))) :: _) (congrArg (fun z => am_I z :: _) (pk_divP (by omega) hdc)) ?_
    refine am_iconst (v := 4) dM_work_75 (by decide) ?_
    refine am_imul dM_work_76 ?_
    refine am_iadd dM_work_77 ?_
    refine am_iload_n (i := 3) dM_work_78 rfl rfl ?_
    refine am_aload_n (i := 0) dM_work_79 rfl rfl ?_
    refine am_getf dM_work_80 flM_28 (by first | rfl | exact sk8 (by omega) | exact sk9 (by omega) | exact sk10 (by omega) | exact sk11 (by omega)) rfl ?_
    refine am_iload_n (i := 2) dM_work_83 rfl rfl ?_
    refine am_iald dM_work_84 (by first | rfl | exact sk8 (by omega) | exact sk9 (by omega) | exact sk10 (by omega) | exact sk11 (by omega)) rfl (by first | omega | assumption | decide) (by decide) (by decide) (by first | exact congrArg am_I (mkd_lo (by omega)) | exact congrArg am_I (mkd_hi (by omega)) | rfl) ?_
    refine am_irem dM_work_85 (q_dim_nz hdc) ?_
    refine am_sT (st' := am_I (nI (k % ix (P v 2))) :: _) (congrArg (fun z => am_I z :: _) (pk_remP (by omega) hdc)) ?_
    refine am_iadd dM_work_86 ?_
    refine am_aload_n (i := 0) dM_work_87 rfl rfl ?_
    refine am_iload_n (i := 2) dM_work_88 rfl rfl ?_
    refine am_iload_n (i := 3) dM_work_89 rfl rfl ?_
    refine am_aload_n (i := 0) dM_work_90 rfl rfl ?_
    refine am_getf dM_work_91 flM_28 (by first | rfl | exact sk8 (by omega) | exact sk9 (by omega) | exact sk10 (by omega) | exact sk11 (by omega)) rfl ?_
    refine am_iload_n (i := 2) dM_work_94 rfl rfl ?_
    refine am_iald dM_work_95 (by first | rfl | exact sk8 (by omega) | exact sk9 (by omega) | exact sk10 (by omega) | exact sk11 (by omega)) rfl (by first | omega | assumption | decide) (by decide) (by decide) (by first | exact congrArg am_I (mkd_lo (by omega)) | exact congrArg am_I (mkd_hi (by omega)) | rfl) ?_
    refine am_idiv dM_work_96 (q_dim_nz hdc) ?_
    refine am_sT (st' := am_I (nI (k / ix (P v 2))) :: _) (congrArg (fun z => am_I z :: _) (pk_divP (by omega) hdc)) ?_
    refine am_iload_n (i := 3) dM_work_97 rfl rfl ?_
    refine am_aload_n (i := 0) dM_work_98 rfl rfl ?_
    refine am_getf dM_work_99 flM_28 (by first | rfl | exact sk8 (by omega) | exact sk9 (by omega) | exact sk10 (by omega) | exact sk11 (by omega)) rfl ?_
    refine am_iload_n (i := 2) dM_work_102 rfl rfl ?_
    refine am_iald dM_work_103 (by first | rfl | exact sk8 (by omega) | exact sk9 (by omega) | exact sk10 (by omega) | exact sk11 (by omega)) rfl (by first | omega | assumption | decide) (by decide) (by decide) (by first | exact congrArg am_I (mkd_lo (by omega)) | exact congrArg am_I (mkd_hi (by omega)) | rfl) ?_
    refine am_irem dM_work_104 (q_dim_nz hdc) ?_
    refine am_sT (st' := am_I (nI (k % ix (P v 2))) :: _) (congrArg (fun z => am_I z :: _) (pk_remP (by omega) hdc)) ?_
    refine am_callV (ac' := 0) (as' := 0) (xs := [_, _, _]) dM_work_105 lkM_114 (by first | rfl | exact sk8 (by omega) | exact sk9 (by omega) | exact sk10 (by omega) | exact sk11 (by omega)) rfl rfl rfl rfl (Nat.le_of_ble_eq_true rfl) rfl rfl (cM_made (pr := pr) (cl := cl) hn hP hv q1 q2 R3 R4 hpa (fun r er => ?_))
    refine am_iast' dM_work_108 (by first | rfl | exact sk8 (by omega) | exact sk9 (by omega) | exact sk10 (by omega) | exact sk11 (by omega)) (nI_vij v (k / ix (P v 2)) (k % ix (P v 2))) (by first | omega | assumption | decide) (by decide) (by decide) (by first | exact wm_kd (by omega) | exact wm_kh (by omega) | exact wm_fi (by omega) | exact wm_fh (by omega) | exact wm_se (by omega) | exact wm_sh (by omega) | exact wm_np (by omega) | exact wm_ph (by omega) | exact wm_nq (by omega) | exact wm_qh (by omega) | exact wm_ro | exact wm_co | exact wm_mm | exact wm_sd | exact wm_pa | exact wm_ce | exact wm_wd | exact wm_ud | exact wm_vn | exact wm_sm) ?_
    refine am_iinc dM_work_109 rfl (by first | exact nI_1 _ | exact pk_m1 _ | rfl) (by decide) ?_
    refine am_goto (tgt := 42) dM_work_112 (by decide) ?_
    refine ih (k + 1) (by omega) _ ?_ ?_ _ rfl
    · intro t ht
      by_cases e : t = k
      · subst e
        rw [upd_eq, er]
      · have ht2 : t < k := by omega
        have ht3 : t < ix (P v 1) * ix (P v 2) := by omega
        have q3 : t / ix (P v 2) < ix (P v 1) := Nat.div_lt_of_lt_mul (by rw [Nat.mul_comm]; exact ht3)
        have q4 : t % ix (P v 2) < ix (P v 2) := Nat.mod_lt _ (by omega)
        rw [upd_ne (fun q => e ?_)]
        · exact h1 t ht2
        · have a1 : t / ix (P v 2) = k / ix (P v 2) := by omega
          have a2 : t % ix (P v 2) = k % ix (P v 2) := by omega
          rw [← Nat.div_add_mod t (ix (P v 2)), ← Nat.div_add_mod k (ix (P v 2)), a1, a2]
    · intro u t hu ht
      rw [upd_ne (by omega)]
      exact h2 u t hu ht
set_option maxRecDepth 100000 in
set_option maxHeartbeats 4000000 in
theorem lpM_work2 {g : am_G} {d : Nat} {Q : Option am_V → am_H → Prop} {X : Nat → Nat → Nat → am_V} {A P : Nat → Nat → Int32} {st mk pa wd us : Nat → Int32} {si : Int32} {n : Nat} {cl pr : Nat → Nat → Int32} {lv : Nat → Int32} (hn : n ≤ 28) (hP : ∀ u, u < n → q_ok P u) (hs : ∀ m, m < n → ∃ j, j < n ∧ st m = nI j) (hpa : q_par pr pa) (hlv : ∀ u, u < n → lv u = q_lv n mk st P u) (K : ∀ ce : Nat → Int32, (∀ u, u < n → ¬ lv u = 0 → q_rel P (q_wk P pr lv cl n) ce u) → Q (some (am_I (q_wsum P lv n))) (hm X (ym A P st mk pa ce (q_wd1 n lv wd) us (nI n) si))) : ∀ (j i : Nat), i + j = n → ∀ ce : Nat → Int32, (∀ u, u < i → ¬ lv u = 0 → q_rel P (q_wk P pr lv cl i) ce u) → ∀ o : Option am_V, am_T g mM_work (d + 3) 0 0 4 [some (am_O 20 0), some (am_I (q_wsum P lv i)), some (am_I (nI i)), o] [] (hm X (ym A P st mk pa ce (q_wd1 i lv wd) us (nI n) si)) Q := by
  have hP2 : ∀ m, m < n → q_arg (P m 3) m ∧ q_arg (P m 4) m := fun m hm => ⟨(hP m hm).1.1, (hP m hm).1.2.1⟩
  intro j
  induction j with
  | zero =>
    intro i hi ce hc o
    refine am_iload_n (i := 2) dM_work_4 rfl rfl ?_
    refine am_aload_n (i := 0) dM_work_5 rfl rfl ?_
    refine am_getf dM_work_6 flM_50 (by first | rfl | exact sk8 (by omega) | exact sk9 (by omega) | exact sk10 (by omega) | exact sk11 (by omega)) rfl ?_
    refine am_icmp_ge_T (tgt := 121) dM_work_9 (by decide) ((nI_le' (by omega) (by omega)).mpr (by omega)) ?_
    refine am_iload_n (i := 1) dM_work_121 rfl rfl ?_
    refine am_iret (st := []) rfl rfl dM_work_122 ?_
    have e : i = n := by omega
    subst e
    exact K ce hc
  | succ j ih =>
    intro i hi ce hc o
    refine am_iload_n (i := 2) dM_work_4 rfl rfl ?_
    refine am_aload_n (i := 0) dM_work_5 rfl rfl ?_
    refine am_getf dM_work_6 flM_50 (by first | rfl | exact sk8 (by omega) | exact sk9 (by omega) | exact sk10 (by omega) | exact sk11 (by omega)) rfl ?_
    refine am_icmp_ge_F (tgt := 121) dM_work_9 (by decide) (fun q => absurd ((nI_le' (by omega) (by omega)).mp q) (by omega)) ?_
    refine am_aload_n (i := 0) dM_work_12 rfl rfl ?_
    refine am_getf dM_work_13 flM_44 (by first | rfl | exact sk8 (by omega) | exact sk9 (by omega) | exact sk10 (by omega) | exact sk11 (by omega)) rfl ?_
    refine am_iload_n (i := 2) dM_work_16 rfl rfl ?_
    refine am_aload_n (i := 0) dM_work_17 rfl rfl ?_
    refine am_iload_n (i := 2) dM_work_18 rfl rfl ?_
    refine am_callV (ac' := 0) (as' := 0) (xs := [_]) dM_work_19 lkM_108 (by first | rfl | exact sk8 (by omega) | exact sk9 (by omega) | exact sk10 (by omega) | exact sk11 (by omega)) rfl rfl rfl rfl (Nat.le_of_ble_eq_true rfl) rfl rfl (cM_isLive hn hs hP2 (by omega) (fun cl0 => ?_) (fun cl0 => ?_))
    · refine am_zast' dM_work_22 (by first | rfl | exact sk8 (by omega) | exact sk9 (by omega) | exact sk10 (by omega) | exact sk11 (by omega)) rfl (by first | omega | assumption | decide) (by decide) (by decide) rfl (by first | exact wm_kd (by omega) | exact wm_kh (by omega) | exact wm_fi (by omega) | exact wm_fh (by omega) | exact wm_se (by omega) | exact wm_sh (by omega) | exact wm_np (by omega) | exact wm_ph (by omega) | exact wm_nq (by omega) | exact wm_qh (by omega) | exact wm_ro | exact wm_co | exact wm_mm | exact wm_sd | exact wm_pa | exact wm_ce | exact wm_wd | exact wm_ud | exact wm_vn | exact wm_sm) ?_
      refine am_aload_n (i := 0) dM_work_23 rfl rfl ?_
      refine am_getf dM_work_24 flM_44 (by first | rfl | exact sk8 (by omega) | exact sk9 (by omega) | exact sk10 (by omega) | exact sk11 (by omega)) rfl ?_
      refine am_iload_n (i := 2) dM_work_27 rfl rfl ?_
      refine am_zald dM_work_28 (by first | rfl | exact sk8 (by omega) | exact sk9 (by omega) | exact sk10 (by omega) | exact sk11 (by omega)) rfl (by first | omega | assumption | decide) (by decide) (by decide) (congrArg am_I (upd_eq _ _ _)) ?_
      refine am_if_eq_F (tgt := 115) dM_work_29 (by decide) (by decide) ?_
      refine am_iload_n (i := 1) dM_work_32 rfl rfl ?_
      refine am_aload_n (i := 0) dM_work_33 rfl rfl ?_
      refine am_iload_n (i := 2) dM_work_34 rfl rfl ?_
      refine am_callV (ac' := 0) (as' := 0) (xs := [_]) dM_work_35 lkM_111 (by first | rfl | exact sk8 (by omega) | exact sk9 (by omega) | exact sk10 (by omega) | exact sk11 (by omega)) rfl rfl rfl rfl (Nat.le_of_ble_eq_true rfl) rfl rfl (cM_workOf (by omega) (hP i (by omega)).1.1 (hP i (by omega)).1.2.2.1 (fun r er => ?_))
      refine am_iadd dM_work_38 ?_
      refine am_istore_n (i := 1) dM_work_39 rfl (by decide) ?_
      refine am_iconst (v := 0) dM_work_40 (by decide) ?_
      refine am_istore_n (i := 3) dM_work_41 rfl (by decide) ?_
      have hl0 : ¬ lv i = 0 := fun q => cl0 ((hlv i (by omega)).symm.trans q)
      have ew : upd (q_wd1 i lv wd) i 1 = q_wd1 (i + 1) lv wd := by
        funext u
        unfold upd q_wd1
        grind
      have ek : q_wk P pr lv cl (i + 1) = q_wo P pr (q_wk P pr lv cl i) i := if_neg hl0
      have es : q_wsum P lv (i + 1) = q_wsum P lv i + q_work P i := if_neg hl0
      have hda := q_dim_pos (hP i (by omega)).2.2.2.1
      have hdb := q_dim_pos (hP i (by omega)).2.2.2.2
      have clo := q_fl2_arg (v := i) hn hP2 n (q_fl1 mk st (fun _ => 0) n) (Nat.le_refl _) (by omega) cl0
      have A3 : 2 < P i 0 → q_rel P (q_wk P pr lv cl i) ce (ix (P i 3)) := fun q => by
        have n3 := (hP i (by omega)).1.2.2.1 q
        have g3 := ((hP i (by omega)).1.1.ix n3 (by omega)).1
        exact hc _ g3 (fun z => clo.1 n3 ((hlv _ (by omega)).symm.trans z))
      have A4 : (P i 0 = 3 ∨ P i 0 = 4 ∨ P i 0 = 5 ∨ P i 0 = 8) → q_rel P (q_wk P pr lv cl i) ce (ix (P i 4)) := fun q => by
        have n4 := (hP i (by omega)).1.2.2.2 q
        have g4 := ((hP i (by omega)).1.2.1.ix n4 (by omega)).1
        exact hc _ g4 (fun z => clo.2 n4 ((hlv _ (by omega)).symm.trans z))
      rw [ew]
      refine lpM_work1 (pr := pr) (cl := q_wk P pr lv cl i) hn hP (by omega) hpa A3 A4 (fun ce' h1 h2 o' => ?_) (ix (P i 1) * ix (P i 2)) 0 (by omega) ce (fun t ht => absurd ht (by omega)) (fun _ _ _ _ => rfl) 0 rfl
      refine am_iinc dM_work_115 rfl (by first | exact nI_1 _ | exact pk_m1 _ | rfl) (by decide) ?_
      refine am_goto (tgt := 4) dM_work_118 (by decide) ?_
      refine am_lT (lv' := [some (am_O 20 0), some (am_I (q_wsum P lv (i + 1))), some (am_I (nI (i + 1))), o']) ?_ (ih (i + 1) (by omega) ce' ?_ o')
      · rw [es, ← er]
        rfl
      · intro u hu hl
        rw [ek]
        by_cases e : u = i
        · subst e
          intro a b ha hb
          obtain ⟨d1, d2⟩ := q_divmod (i := a) hb
          have hlt : a * ix (P u 2) + b < ix (P u 1) * ix (P u 2) := by
            have := Nat.mul_le_mul_right (ix (P u 2)) (show a + 1 ≤ ix (P u 1) from ha)
            rw [Nat.succ_mul] at this
            omega
          have := h1 (a * ix (P u 2) + b) hlt
          rw [d1, d2] at this
          rw [this]
          unfold q_at q_wo
          rw [if_pos ⟨rfl, hlt⟩, d1, d2]
        · exact q_rel_o (v := i) e (hc u (by omega) hl) (fun k => if_neg (fun q => e q.1)) (fun t ht => h2 u t e ht) (hP u (by omega)).2.2.2.1 (hP u (by omega)).2.2.2.2
    · refine am_zast' dM_work_22 (by first | rfl | exact sk8 (by omega) | exact sk9 (by omega) | exact sk10 (by omega) | exact sk11 (by omega)) rfl (by first | omega | assumption | decide) (by decide) (by decide) rfl (by first | exact wm_kd (by omega) | exact wm_kh (by omega) | exact wm_fi (by omega) | exact wm_fh (by omega) | exact wm_se (by omega) | exact wm_sh (by omega) | exact wm_np (by omega) | exact wm_ph (by omega) | exact wm_nq (by omega) | exact wm_qh (by omega) | exact wm_ro | exact wm_co | exact wm_mm | exact wm_sd | exact wm_pa | exact wm_ce | exact wm_wd | exact wm_ud | exact wm_vn | exact wm_sm) ?_
      refine am_aload_n (i := 0) dM_work_23 rfl rfl ?_
      refine am_getf dM_work_24 flM_44 (by first | rfl | exact sk8 (by omega) | exact sk9 (by omega) | exact sk10 (by omega) | exact sk11 (by omega)) rfl ?_
      refine am_iload_n (i := 2) dM_work_27 rfl rfl ?_
      refine am_zald dM_work_28 (by first | rfl | exact sk8 (by omega) | exact sk9 (by omega) | exact sk10 (by omega) | exact sk11 (by omega)) rfl (by first | omega | assumption | decide) (by decide) (by decide) (congrArg am_I (upd_eq _ _ _)) ?_
      refine am_if_eq_T (tgt := 115) dM_work_29 (by decide) rfl ?_
      refine am_iinc dM_work_115 rfl (by first | exact nI_1 _ | exact pk_m1 _ | rfl) (by decide) ?_
      refine am_goto (tgt := 4) dM_work_118 (by decide) ?_
      have hl0 : lv i = 0 := (hlv i (by omega)).trans cl0
      have ew : upd (q_wd1 i lv wd) i 0 = q_wd1 (i + 1) lv wd := by
        funext u
        unfold upd q_wd1
        grind
      have ek : q_wk P pr lv cl (i + 1) = q_wk P pr lv cl i := if_pos hl0
      have es : q_wsum P lv (i + 1) = q_wsum P lv i := if_pos hl0
      rw [ew]
      refine am_lT (lv' := [some (am_O 20 0), some (am_I (q_wsum P lv (i + 1))), some (am_I (nI (i + 1))), o]) ?_ (ih (i + 1) (by omega) ce ?_ o)
      · rw [es]
        rfl
      · intro u hu hl
        have hui : u ≠ i := fun q => hl (q ▸ hl0)
        rw [ek]
        exact hc u (by omega) hl
set_option maxRecDepth 100000 in
set_option maxHeartbeats 4000000 in
theorem cM_work {g : am_G} {d : Nat} {Q : Option am_V → am_H → Prop} {X : Nat → Nat → Nat → am_V} {A P : Nat → Nat → Int32} {st mk pa ce wd us : Nat → Int32} {si : Int32} {n : Nat} {cl pr : Nat → Nat → Int32} {lv : Nat → Int32} (hn : n ≤ 28) (hP : ∀ u, u < n → q_ok P u) (hs : ∀ m, m < n → ∃ j, j < n ∧ st m = nI j) (hpa : q_par pr pa) (hlv : ∀ u, u < n → lv u = q_lv n mk st P u) (k : ∀ ce : Nat → Int32, (∀ u, u < n → ¬ lv u = 0 → q_rel P (q_wk P pr lv cl n) ce u) → Q (some (am_I (q_wsum P lv n))) (hm X (ym A P st mk pa ce (q_wd1 n lv wd) us (nI n) si))) : am_C g mM_work (d + 3) 0 0 [am_O 20 0] (hm X (ym A P st mk pa ce wd us (nI n) si)) Q := by
  refine am_enter (lv := [some (am_O 20 0), none, none, none]) rfl rfl (am_cat1 rfl) (Nat.le_of_ble_eq_true rfl) ?_
  refine am_iconst (v := 0) dM_work_0 (by decide) ?_
  refine am_istore_n (i := 1) dM_work_1 rfl (by decide) ?_
  refine am_iconst (v := 0) dM_work_2 (by decide) ?_
  refine am_istore_n (i := 2) dM_work_3 rfl (by decide) ?_
  refine am_hT (h' := (hm X (ym A P st mk pa ce (q_wd1 0 lv wd) us (nI n) si))) ?_ (lpM_work2 hn hP hs hpa hlv k n 0 (by omega) ce (fun u hu => absurd hu (by omega)) _)
  congr 2
