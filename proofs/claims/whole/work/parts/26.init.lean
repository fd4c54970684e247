/-! ===== the two constructors ===== -/
abbrev xc0 : Nat → Nat → Nat → am_V := xc (fun _ _ => 0) (fun _ _ => 0) (fun _ => 0) (fun _ => 0) (fun _ => 0) (fun _ _ => 0) (fun _ _ => 0) (fun _ => 0) 0 0 0
abbrev ym0 : Nat → Nat → Nat → am_V := ym (fun _ _ => 0) (fun _ _ => 0) (fun _ => 0) (fun _ => 0) (fun _ => 0) (fun _ => 0) (fun _ => 0) (fun _ => 0) 0 0
def oC0 (k : Nat) : am_V := am_df (am_ty 1 k)
def oM0 (k : Nat) : am_V := am_df (am_ty 2 k)
def pN (_ : Nat) : am_V := am_N
def pf (r i k : Nat) : am_V := if k < i then am_O r k else am_N
theorem pf_s (r i : Nat) : upV (pf r i) i (am_O r i) = pf r (i + 1) := by
  funext k
  unfold upV pf
  by_cases h : k = i
  · subst h
    rw [if_pos rfl, if_pos (by omega)]
  · rw [if_neg h]
    by_cases h2 : k < i
    · rw [if_pos h2, if_pos (by omega)]
    · rw [if_neg h2, if_neg (by omega)]
theorem pf_0 (r : Nat) : pN = pf r 0 := by
  funext k
  exact (if_neg (Nat.not_lt_zero k)).symm
theorem ty_O_int : ∀ k : Nat, am_df (am_ty 0 k) = am_I 0 := by
  intro k
  match k with
  | 0 => rfl
  | 1 => rfl
  | 2 => rfl
  | 3 => rfl
  | 4 => rfl
  | 5 => rfl
  | 6 => rfl
  | k + 7 => rfl
theorem ty_O_sm : ∀ k : Nat, k < 7 → am_small (am_ty 0 k) := by
  intro k hk
  match k, hk with
  | 0, _ => exact fun _ => rfl
  | 1, _ => exact fun _ => rfl
  | 2, _ => exact fun _ => rfl
  | 3, _ => exact fun _ => rfl
  | 4, _ => exact fun _ => rfl
  | 5, _ => exact fun _ => rfl
  | 6, _ => exact fun _ => rfl
  | k + 7, hk => omega
theorem hz_some {N r i : Nat} {X Y : Nat → Nat → Nat → am_V} {x : am_E} (hp : am_pos r i < N) (h : sh_K r i = some x) : (hz N X Y).2.1 r i = some x := shN_some hp h
theorem hz_none {N r i : Nat} {X Y : Nat → Nat → Nat → am_V} (hp : N ≤ am_pos r i) : (hz N X Y).2.1 r i = none := shN_none hp
theorem xi_eq {o : Nat → am_V} {Y : Nat → Nat → Nat → am_V} (ho : ∀ k, k < 11 → o k = xc0 0 0 k) : am_eq (hz 97 (xi o (pf 8 28) (pf 9 28)) Y) (hz 97 xc0 Y) := by
  refine ⟨rfl, rfl, fun r i kn hk k hkn => ?_⟩
  obtain ⟨hp, hs⟩ := shN_of (show shN 97 r i = some kn from hk)
  show (bif Nat.ble 20 r then Y (r - 20) i k else xi o (pf 8 28) (pf 9 28) r i k) = (bif Nat.ble 20 r then Y (r - 20) i k else xc0 r i k)
  congr 1
  match r, i, hs with
  | 0, 0, hs =>
    cases hs
    exact ho k hkn
  | 1, 0, hs =>
    cases hs
    exact if_pos hkn
  | 2, 0, hs =>
    cases hs
    exact if_pos hkn
  | 3, 0, _ => rfl
  | 4, 0, _ => rfl
  | 5, 0, _ => rfl
  | 6, 0, _ => rfl
  | 7, 0, _ => rfl
  | 8, _, _ => rfl
  | 9, _, _ => rfl
  | 10, _, _ => rfl
  | 11, _, _ => rfl
  | 12, 0, _ => rfl
  | r + 20, i, hs =>
    exfalso
    have : 77 + (r + 20) < 97 := hp
    omega
theorem mkd0 (k j : Nat) : mkd (fun _ _ => 0) (fun _ _ => 0) k j = 0 := by
  unfold mkd
  split <;> rfl
theorem yi_eq {o : Nat → am_V} {X : Nat → Nat → Nat → am_V} (ho : ∀ k, k < 15 → o k = ym0 0 0 k) : am_eq (hz 111 X (yi o)) (hz 111 X ym0) := by
  refine ⟨rfl, rfl, fun r i kn hk k hkn => ?_⟩
  obtain ⟨hp, hs⟩ := shN_of (show shN 111 r i = some kn from hk)
  show (bif Nat.ble 20 r then yi o (r - 20) i k else X r i k) = (bif Nat.ble 20 r then ym0 (r - 20) i k else X r i k)
  cases hb : Nat.ble 20 r with
  | false => rfl
  | true =>
    have h20 : 20 ≤ r := Nat.le_of_ble_eq_true hb
    obtain ⟨q, rfl⟩ : ∃ q, r = q + 20 := ⟨r - 20, by omega⟩
    show yi o q i k = ym0 q i k
    match q, i, hs with
    | 0, 0, hs =>
      cases hs
      exact ho k hkn
    | 1, 0, _ => exact congrArg am_I (mkd0 _ _).symm
    | 2, 0, _ => exact congrArg am_I (mkd0 _ _).symm
    | 3, 0, _ => exact congrArg am_I (mkd0 _ _).symm
    | 4, 0, _ => exact congrArg am_I (mkd0 _ _).symm
    | 5, 0, _ => exact congrArg am_I (mkd0 _ _).symm
    | 6, 0, _ => rfl
    | 7, 0, _ => rfl
    | 8, 0, _ => rfl
    | 9, 0, _ => rfl
    | 10, 0, _ => rfl
    | 11, 0, _ => rfl
    | 12, 0, _ => rfl
    | 13, 0, _ => rfl
    | q + 14, i, hs => cases hs
set_option maxRecDepth 100000 in
set_option maxHeartbeats 4000000 in
theorem cO_init {g : am_G} {d : Nat} {h : am_H} {r i : Nat} {Q : Option am_V → am_H → Prop} (k : Q none h) : am_C g mO_init (d + 1) 0 0 [am_O r i] h Q := by
  refine am_enter (lv := [some (am_O r i)]) rfl rfl (am_cat1 rfl) (Nat.le_of_ble_eq_true rfl) ?_
  refine am_aload_n (i := 0) dO_init_0 rfl rfl ?_
  refine am_objInit dO_init_1 obO_3 ob_in ob_cd (by omega) (Nat.le_of_ble_eq_true rfl) ?_
  refine am_vret (st := []) rfl dO_init_4 ?_
  exact k
set_option maxRecDepth 100000 in
set_option maxHeartbeats 4000000 in
theorem lpC_init {g : am_G} {d : Nat} {Q : Option am_V → am_H → Prop} {Y : Nat → Nat → Nat → am_V} {o : Nat → am_V} (h0 : o 0 = am_O 1 0) (h1 : o 1 = am_O 2 0) (K : am_T g mC_init (d + 2) (0) (0) 132 [some (am_O 0 0), some (am_I (nI 28))] [] (hz (97) (xi o (pf 8 28) (pf 9 28)) Y) Q) : ∀ (j i ac as : Nat), i + j = 28 → ac = 2 * j → as = 14 * j → am_T g mC_init (d + 2) (ac) (as) 94 [some (am_O 0 0), some (am_I (nI i))] [] (hz (41 + 2 * i) (xi o (pf 8 i) (pf 9 i)) Y) Q := by
  intro j
  induction j with
  | zero =>
    intro i ac as hi hac has
    subst hac
    subst has
    refine am_iload_n (i := 1) dC_init_94 rfl rfl ?_
    refine am_bipush (v := 28) dC_init_95 (by decide) ?_
    refine am_icmp_ge_T (tgt := 132) dC_init_97 (by decide) ((nI_le' (a := 28) (by omega) (by omega)).mpr (by omega)) ?_
    have e : i = 28 := by omega
    subst e
    exact K
  | succ j ih =>
    intro i ac as hi hac has
    obtain rfl : ac = 2 * j + 1 + 1 := by omega
    obtain rfl : as = 14 * j + 7 + 7 := by omega
    refine am_iload_n (i := 1) dC_init_94 rfl rfl ?_
    refine am_bipush (v := 28) dC_init_95 (by decide) ?_
    refine am_icmp_ge_F (tgt := 132) dC_init_97 (by decide) (fun q => absurd ((nI_le' (a := 28) (by omega) (by omega)).mp q) (by omega)) ?_
    refine am_aload_n (i := 0) dC_init_100 rfl rfl ?_
    refine am_getf dC_init_101 flC_11 (hz_some (by show 0 < _; omega) rfl) h0 ?_
    refine am_iload_n (i := 1) dC_init_104 rfl rfl ?_
    refine am_new (ci := 0) (q := (nm_O, tf_O, 7)) (ac := 2 * j + 1) (as := 14 * j + 7) 8 i dC_init_105 rfl kcC_9 ki_O kn_O ty_O_sm (hz_none (by show _ ≤ 41 + 2 * i; omega)) (by decide) (by show 41 + 2 * i = 41 + 2 * i; omega) (am_hT (hz_nw (if_pos (by omega)) (by show 41 + 2 * i = _; omega) (funext fun k => (ty_O_int k).symm)) ?_)
    refine am_dup dC_init_108 rfl ?_
    refine am_callI (mc' := 0) (ms' := 0) (ac' := 2 * j + 1) (as' := 14 * j + 7) (xs := []) dC_init_109 lkC_51 rfl rfl (Nat.le_of_ble_eq_true rfl) (by omega) (by omega) (cO_init ?_)
    refine am_aast (q := (nm_O, tf_O, 7)) (ci := 0) dC_init_112 (hz_some (by show 1 < _; omega) rfl) rfl (by omega) (by decide) (by decide) (hz_some (by show 41 + 2 * i < _; omega) (if_pos (by omega))) rfl ?_
    refine am_hT (h' := hz (41 + 2 * i + 1) (xi o (pf 8 (i + 1)) (pf 9 i)) Y) (by rw [← pf_s 8]; exact hz_p1) ?_
    refine am_aload_n (i := 0) dC_init_113 rfl rfl ?_
    refine am_getf dC_init_114 flC_15 (hz_some (by show 0 < _; omega) rfl) h1 ?_
    refine am_iload_n (i := 1) dC_init_117 rfl rfl ?_
    refine am_new (ci := 0) (q := (nm_O, tf_O, 7)) (ac := 2 * j) (as := 14 * j) 9 i dC_init_118 rfl kcC_9 ki_O kn_O ty_O_sm (hz_none (by show _ ≤ 42 + 2 * i; omega)) (by decide) (by show 42 + 2 * i = 41 + 2 * i + 1; omega) (am_hT (hz_nw (if_pos (by omega)) (by show 42 + 2 * i = _; omega) (funext fun k => (ty_O_int k).symm)) ?_)
    refine am_dup dC_init_121 rfl ?_
    refine am_callI (mc' := 0) (ms' := 0) (ac' := 2 * j) (as' := 14 * j) (xs := []) dC_init_122 lkC_51 rfl rfl (Nat.le_of_ble_eq_true rfl) (by omega) (by omega) (cO_init ?_)
    refine am_aast (q := (nm_O, tf_O, 7)) (ci := 0) dC_init_125 (hz_some (by show 2 < _; omega) rfl) rfl (by omega) (by decide) (by decide) (hz_some (by show 42 + 2 * i < _; omega) (if_pos (by omega))) rfl ?_
    refine am_hT (h' := hz (41 + 2 * i + 1 + 1) (xi o (pf 8 (i + 1)) (pf 9 (i + 1))) Y) (by rw [← pf_s 9]; exact hz_p2) ?_
    refine am_iinc dC_init_126 rfl (by first | exact nI_1 _ | exact pk_m1 _ | rfl) (by decide) ?_
    refine am_goto (tgt := 94) dC_init_129 (by decide) ?_
    exact ih (i + 1) (2 * j) (14 * j) (by omega) rfl rfl
set_option maxRecDepth 100000 in
set_option maxHeartbeats 4000000 in
theorem cC_init {g : am_G} {d : Nat} {Q : Option am_V → am_H → Prop} {Y : Nat → Nat → Nat → am_V} (k : Q none (hz 97 xc0 Y)) : am_C g mC_init (d + 2) 96 1083 [am_O 0 0] (hz 1 (xi oC0 pN pN) Y) Q := by
  refine am_enter (lv := [some (am_O 0 0), none]) rfl rfl (am_cat1 rfl) (Nat.le_of_ble_eq_true rfl) ?_
  refine am_aload_n (i := 0) dC_init_0 rfl rfl ?_
  refine am_objInit dC_init_1 obC_1 ob_in ob_cd (by omega) (Nat.le_of_ble_eq_true rfl) ?_
  refine am_aload_n (i := 0) dC_init_4 rfl rfl ?_
  refine am_bipush (v := 28) dC_init_5 (by decide) ?_
  refine am_anew (ac := 95) (as := 1055) (N := 28) 1 0 dC_init_7 kcC_9 (by decide) (by decide) rfl (by decide) (by decide) (hz_none (by decide)) (by decide) rfl (am_hT (hz_nw rfl rfl rfl) ?_)
  refine am_putF dC_init_10 ffC_11 rfl (hz_some (by decide) rfl) (fun _ => ⟨rfl, rfl⟩) (am_hT hz_o ?_)
  refine am_aload_n (i := 0) dC_init_13 rfl rfl ?_
  refine am_bipush (v := 28) dC_init_14 (by decide) ?_
  refine am_anew (ac := 94) (as := 1027) (N := 28) 2 0 dC_init_16 kcC_9 (by decide) (by decide) rfl (by decide) (by decide) (hz_none (by decide)) (by decide) rfl (am_hT (hz_nw rfl rfl rfl) ?_)
  refine am_putF dC_init_19 ffC_15 rfl (hz_some (by decide) rfl) (fun _ => ⟨rfl, rfl⟩) (am_hT hz_o ?_)
  refine am_aload_n (i := 0) dC_init_22 rfl rfl ?_
  refine am_bipush (v := 28) dC_init_23 (by decide) ?_
  refine am_newa (ac := 93) (as := 999) (N := 28) (ty := .int) 3 0 dC_init_25 rfl ka_int (by decide) (fun _ h => h) (fun _ => rfl) rfl (by decide) (by decide) (hz_none (by decide)) (by decide) rfl (am_hT (hz_nw rfl rfl rfl) ?_)
  refine am_putF dC_init_27 ffC_18 rfl (hz_some (by decide) rfl) (fun _ => ⟨rfl, rfl⟩) (am_hT hz_o ?_)
  refine am_aload_n (i := 0) dC_init_30 rfl rfl ?_
  refine am_bipush (v := 28) dC_init_31 (by decide) ?_
  refine am_newa (ac := 92) (as := 971) (N := 28) (ty := .boolean) 4 0 dC_init_33 rfl ka_boolean (by decide) (fun _ h => h) (fun _ => rfl) rfl (by decide) (by decide) (hz_none (by decide)) (by decide) rfl (am_hT (hz_nw rfl rfl rfl) ?_)
  refine am_putF dC_init_35 ffC_22 rfl (hz_some (by decide) rfl) (fun _ => ⟨rfl, rfl⟩) (am_hT hz_o ?_)
  refine am_aload_n (i := 0) dC_init_38 rfl rfl ?_
  refine am_bipush (v := 28) dC_init_39 (by decide) ?_
  refine am_newa (ac := 91) (as := 943) (N := 28) (ty := .boolean) 5 0 dC_init_41 rfl ka_boolean (by decide) (fun _ h => h) (fun _ => rfl) rfl (by decide) (by decide) (hz_none (by decide)) (by decide) rfl (am_hT (hz_nw rfl rfl rfl) ?_)
  refine am_putF dC_init_43 ffC_26 rfl (hz_some (by decide) rfl) (fun _ => ⟨rfl, rfl⟩) (am_hT hz_o ?_)
  refine am_aload_n (i := 0) dC_init_46 rfl rfl ?_
  refine am_bipush (v := 28) dC_init_47 (by decide) ?_
  refine am_bipush (v := 16) dC_init_49 (by decide) ?_
  refine am_multi (ac := 62) (as := 467) (N := 6) (L := 28) (Wd := 16) 6 10 dC_init_51 kcC_29 rfl rfl (by decide) (by decide) rfl rfl (fun i hi => ⟨by show 7 + i = 6 + 1 + i; omega, if_pos hi⟩) (fun _ => rfl) (fun _ _ => rfl) ?_
  refine am_putF dC_init_55 ffC_31 rfl (hz_some (by decide) rfl) (fun _ => ⟨rfl, rfl⟩) (am_hT hz_o ?_)
  refine am_aload_n (i := 0) dC_init_58 rfl rfl ?_
  refine am_iconst (v := 4) dC_init_59 (by decide) ?_
  refine am_bipush (v := 16) dC_init_60 (by decide) ?_
  refine am_multi (ac := 57) (as := 399) (N := 35) (L := 4) (Wd := 16) 7 11 dC_init_62 kcC_29 rfl rfl (by decide) (by decide) rfl rfl (fun i hi => ⟨by show 36 + i = 35 + 1 + i; omega, if_pos hi⟩) (fun _ => rfl) (fun _ _ => rfl) ?_
  refine am_putF dC_init_66 ffC_34 rfl (hz_some (by decide) rfl) (fun _ => ⟨rfl, rfl⟩) (am_hT hz_o ?_)
  refine am_aload_n (i := 0) dC_init_69 rfl rfl ?_
  refine am_bipush (v := 7) dC_init_70 (by decide) ?_
  refine am_newa (ac := 56) (as := 392) (N := 7) (ty := .int) 12 0 dC_init_72 rfl ka_int (by decide) (fun _ h => h) (fun _ => rfl) rfl (by decide) (by decide) (hz_none (by decide)) (by decide) rfl (am_hT (hz_nw rfl rfl rfl) ?_)
  refine am_putF dC_init_74 ffC_37 rfl (hz_some (by decide) rfl) (fun _ => ⟨rfl, rfl⟩) (am_hT hz_o ?_)
  refine am_aload_n (i := 0) dC_init_77 rfl rfl ?_
  refine am_iconst (v := 0) dC_init_78 (by decide) ?_
  refine am_putf' dC_init_79 flC_40 (hz_some (by decide) rfl) rfl (fun _ => ⟨rfl, rfl⟩) hz_o ?_
  refine am_aload_n (i := 0) dC_init_82 rfl rfl ?_
  refine am_iconst (v := 0) dC_init_83 (by decide) ?_
  refine am_putf' dC_init_84 flC_44 (hz_some (by decide) rfl) rfl (fun _ => ⟨rfl, rfl⟩) hz_o ?_
  refine am_aload_n (i := 0) dC_init_87 rfl rfl ?_
  refine am_iconst (v := 0) dC_init_88 (by decide) ?_
  refine am_putf' dC_init_89 flC_48 (hz_some (by decide) rfl) rfl (fun _ => ⟨rfl, rfl⟩) hz_o ?_
  refine am_iconst (v := 0) dC_init_92 (by decide) ?_
  refine am_istore_n (i := 1) dC_init_93 rfl (by decide) ?_
  refine am_hT (h' := hz _ (xi _ (pf 8 0) (pf 9 0)) Y) (by rw [← pf_0, ← pf_0]) ?_
  refine lpC_init ?_ ?_ ?_ 28 0 56 392 (by omega) (by omega) (by omega)
  · rfl
  · rfl
  refine am_ext (xi_eq ?_) ?_
  · intro k hk
    match k, hk with
    | 0, _ => rfl
    | 1, _ => rfl
    | 2, _ => rfl
    | 3, _ => rfl
    | 4, _ => rfl
    | 5, _ => rfl
    | 6, _ => rfl
    | 7, _ => rfl
    | 8, _ => rfl
    | 9, _ => rfl
    | 10, _ => rfl
    | k + 11, hk => omega
  · refine am_vret (st := []) rfl dC_init_132 ?_
    exact k
set_option maxRecDepth 100000 in
set_option maxHeartbeats 4000000 in
theorem cM_init {g : am_G} {d : Nat} {Q : Option am_V → am_H → Prop} {X : Nat → Nat → Nat → am_V} (k : Q none (hz 111 X ym0)) : am_C g mM_init (d + 1) 13 939 [am_O 20 0] (hz 98 X (yi oM0)) Q := by
  refine am_enter (lv := [some (am_O 20 0)]) rfl rfl (am_cat1 rfl) (Nat.le_of_ble_eq_true rfl) ?_
  refine am_aload_n (i := 0) dM_init_0 rfl rfl ?_
  refine am_objInit dM_init_1 obM_1 ob_in ob_cd (by omega) (Nat.le_of_ble_eq_true rfl) ?_
  refine am_aload_n (i := 0) dM_init_4 rfl rfl ?_
  refine am_bipush (v := 56) dM_init_5 (by decide) ?_
  refine am_newa (ac := 12) (as := 883) (N := 56) (ty := .int) 21 0 dM_init_7 rfl ka_int (by decide) (fun _ h => h) (fun _ => rfl) rfl (by decide) (by decide) (hz_none (by decide)) (by decide) rfl (am_hT (hz_nw rfl rfl rfl) ?_)
  refine am_putF dM_init_9 ffM_7 rfl (hz_some (by decide) rfl) (fun _ => ⟨rfl, rfl⟩) (am_hT hz_y ?_)
  refine am_aload_n (i := 0) dM_init_12 rfl rfl ?_
  refine am_bipush (v := 56) dM_init_13 (by decide) ?_
  refine am_newa (ac := 11) (as := 827) (N := 56) (ty := .int) 22 0 dM_init_15 rfl ka_int (by decide) (fun _ h => h) (fun _ => rfl) rfl (by decide) (by decide) (hz_none (by decide)) (by decide) rfl (am_hT (hz_nw rfl rfl rfl) ?_)
  refine am_putF dM_init_17 ffM_13 rfl (hz_some (by decide) rfl) (fun _ => ⟨rfl, rfl⟩) (am_hT hz_y ?_)
  refine am_aload_n (i := 0) dM_init_20 rfl rfl ?_
  refine am_bipush (v := 56) dM_init_21 (by decide) ?_
  refine am_newa (ac := 10) (as := 771) (N := 56) (ty := .int) 23 0 dM_init_23 rfl ka_int (by decide) (fun _ h => h) (fun _ => rfl) rfl (by decide) (by decide) (hz_none (by decide)) (by decide) rfl (am_hT (hz_nw rfl rfl rfl) ?_)
  refine am_putF dM_init_25 ffM_16 rfl (hz_some (by decide) rfl) (fun _ => ⟨rfl, rfl⟩) (am_hT hz_y ?_)
  refine am_aload_n (i := 0) dM_init_28 rfl rfl ?_
  refine am_bipush (v := 56) dM_init_29 (by decide) ?_
  refine am_newa (ac := 9) (as := 715) (N := 56) (ty := .int) 24 0 dM_init_31 rfl ka_int (by decide) (fun _ h => h) (fun _ => rfl) rfl (by decide) (by decide) (hz_none (by decide)) (by decide) rfl (am_hT (hz_nw rfl rfl rfl) ?_)
  refine am_putF dM_init_33 ffM_19 rfl (hz_some (by decide) rfl) (fun _ => ⟨rfl, rfl⟩) (am_hT hz_y ?_)
  refine am_aload_n (i := 0) dM_init_36 rfl rfl ?_
  refine am_bipush (v := 56) dM_init_37 (by decide) ?_
  refine am_newa (ac := 8) (as := 659) (N := 56) (ty := .int) 25 0 dM_init_39 rfl ka_int (by decide) (fun _ h => h) (fun _ => rfl) rfl (by decide) (by decide) (hz_none (by decide)) (by decide) rfl (am_hT (hz_nw rfl rfl rfl) ?_)
  refine am_putF dM_init_41 ffM_22 rfl (hz_some (by decide) rfl) (fun _ => ⟨rfl, rfl⟩) (am_hT hz_y ?_)
  refine am_aload_n (i := 0) dM_init_44 rfl rfl ?_
  refine am_bipush (v := 28) dM_init_45 (by decide) ?_
  refine am_newa (ac := 7) (as := 631) (N := 28) (ty := .int) 26 0 dM_init_47 rfl ka_int (by decide) (fun _ h => h) (fun _ => rfl) rfl (by decide) (by decide) (hz_none (by decide)) (by decide) rfl (am_hT (hz_nw rfl rfl rfl) ?_)
  refine am_putF dM_init_49 ffM_25 rfl (hz_some (by decide) rfl) (fun _ => ⟨rfl, rfl⟩) (am_hT hz_y ?_)
  refine am_aload_n (i := 0) dM_init_52 rfl rfl ?_
  refine am_bipush (v := 28) dM_init_53 (by decide) ?_
  refine am_newa (ac := 6) (as := 603) (N := 28) (ty := .int) 27 0 dM_init_55 rfl ka_int (by decide) (fun _ h => h) (fun _ => rfl) rfl (by decide) (by decide) (hz_none (by decide)) (by decide) rfl (am_hT (hz_nw rfl rfl rfl) ?_)
  refine am_putF dM_init_57 ffM_28 rfl (hz_some (by decide) rfl) (fun _ => ⟨rfl, rfl⟩) (am_hT hz_y ?_)
  refine am_aload_n (i := 0) dM_init_60 rfl rfl ?_
  refine am_bipush (v := 28) dM_init_61 (by decide) ?_
  refine am_newa (ac := 5) (as := 575) (N := 28) (ty := .boolean) 28 0 dM_init_63 rfl ka_boolean (by decide) (fun _ h => h) (fun _ => rfl) rfl (by decide) (by decide) (hz_none (by decide)) (by decide) rfl (am_hT (hz_nw rfl rfl rfl) ?_)
  refine am_putF dM_init_65 ffM_31 rfl (hz_some (by decide) rfl) (fun _ => ⟨rfl, rfl⟩) (am_hT hz_y ?_)
  refine am_aload_n (i := 0) dM_init_68 rfl rfl ?_
  refine am_bipush (v := 28) dM_init_69 (by decide) ?_
  refine am_newa (ac := 4) (as := 547) (N := 28) (ty := .int) 29 0 dM_init_71 rfl ka_int (by decide) (fun _ h => h) (fun _ => rfl) rfl (by decide) (by decide) (hz_none (by decide)) (by decide) rfl (am_hT (hz_nw rfl rfl rfl) ?_)
  refine am_putF dM_init_73 ffM_35 rfl (hz_some (by decide) rfl) (fun _ => ⟨rfl, rfl⟩) (am_hT hz_y ?_)
  refine am_aload_n (i := 0) dM_init_76 rfl rfl ?_
  refine am_bipush (v := 64) dM_init_77 (by decide) ?_
  refine am_newa (ac := 3) (as := 483) (N := 64) (ty := .int) 30 0 dM_init_79 rfl ka_int (by decide) (fun _ h => h) (fun _ => rfl) rfl (by decide) (by decide) (hz_none (by decide)) (by decide) rfl (am_hT (hz_nw rfl rfl rfl) ?_)
  refine am_putF dM_init_81 ffM_38 rfl (hz_some (by decide) rfl) (fun _ => ⟨rfl, rfl⟩) (am_hT hz_y ?_)
  refine am_aload_n (i := 0) dM_init_84 rfl rfl ?_
  refine am_sipush (v := 448) dM_init_85 (by decide) ?_
  refine am_newa (ac := 2) (as := 35) (N := 448) (ty := .int) 31 0 dM_init_88 rfl ka_int (by decide) (fun _ h => h) (fun _ => rfl) rfl (by decide) (by decide) (hz_none (by decide)) (by decide) rfl (am_hT (hz_nw rfl rfl rfl) ?_)
  refine am_putF dM_init_90 ffM_41 rfl (hz_some (by decide) rfl) (fun _ => ⟨rfl, rfl⟩) (am_hT hz_y ?_)
  refine am_aload_n (i := 0) dM_init_93 rfl rfl ?_
  refine am_bipush (v := 28) dM_init_94 (by decide) ?_
  refine am_newa (ac := 1) (as := 7) (N := 28) (ty := .boolean) 32 0 dM_init_96 rfl ka_boolean (by decide) (fun _ h => h) (fun _ => rfl) rfl (by decide) (by decide) (hz_none (by decide)) (by decide) rfl (am_hT (hz_nw rfl rfl rfl) ?_)
  refine am_putF dM_init_98 ffM_44 rfl (hz_some (by decide) rfl) (fun _ => ⟨rfl, rfl⟩) (am_hT hz_y ?_)
  refine am_aload_n (i := 0) dM_init_101 rfl rfl ?_
  refine am_bipush (v := 7) dM_init_102 (by decide) ?_
  refine am_newa (ac := 0) (as := 0) (N := 7) (ty := .int) 33 0 dM_init_104 rfl ka_int (by decide) (fun _ h => h) (fun _ => rfl) rfl (by decide) (by decide) (hz_none (by decide)) (by decide) rfl (am_hT (hz_nw rfl rfl rfl) ?_)
  refine am_putF dM_init_106 ffM_47 rfl (hz_some (by decide) rfl) (fun _ => ⟨rfl, rfl⟩) (am_hT hz_y ?_)
  refine am_ext (yi_eq ?_) ?_
  · intro k hk
    match k, hk with
    | 0, _ => rfl
    | 1, _ => rfl
    | 2, _ => rfl
    | 3, _ => rfl
    | 4, _ => rfl
    | 5, _ => rfl
    | 6, _ => rfl
    | 7, _ => rfl
    | 8, _ => rfl
    | 9, _ => rfl
    | 10, _ => rfl
    | 11, _ => rfl
    | 12, _ => rfl
    | 13, _ => rfl
    | 14, _ => rfl
    | k + 15, hk => omega
  · refine am_vret (st := []) rfl dM_init_109 ?_
    exact k
