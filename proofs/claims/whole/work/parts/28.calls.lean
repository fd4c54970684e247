/-! ===== the law: a script's calls, one after another ===== -/
def lw_H (h : am_H) : Prop := ∃ (n : Nat) (A P : Nat → Nat → Int32) (st mk lv : Nat → Int32) (cl pr : Nat → Nat → Int32) (us : Nat → Int32) (si wk : Int32) (pa ce wd : Nat → Int32), q_I n A P st mk lv cl pr si wk pa ce wd ∧ h = hm (xc A P st mk lv cl pr us (nI n) si wk) (ym A P st mk pa ce wd us (nI n) si)
/-- the script: an array of ints -/
def lw_S (g : am_G) (L : Nat) : Prop := (gm_s g).slots.size = L ∧ L < 2 ^ 31 ∧ ∀ j, j < L → ∃ y : Int32, (gm_s g).slots[j]? = some (.int y)
set_option maxRecDepth 100000 in
set_option maxHeartbeats 4000000 in
theorem lL_0 {g : am_G} {Q : Option am_V → am_H → Prop} {L0 k n : Nat} {A P : Nat → Nat → Int32} {st mk lv : Nat → Int32} {cl pr : Nat → Nat → Int32} {us : Nat → Int32} {si wk : Int32} {pa ce wd : Nat → Int32} (hS : lw_S g L0) (hk : 6 * k + 6 ≤ L0) (hI : q_I n A P st mk lv cl pr si wk pa ce wd) (K : ∀ h, lw_H h → am_T g mL_law 5 0 0 569 [some (am_O 100 0), some (am_O 0 0), some (am_O 20 0), some (am_I (nI (6 * k)))] [] h Q) : am_T g mL_law 5 0 0 96 [some (am_O 100 0), some (am_O 0 0), some (am_O 20 0), some (am_I (nI (6 * k)))] [] (hm (xc A P st mk lv cl pr us (nI n) si wk) (ym A P st mk pa ce wd us (nI n) si)) Q := by
  obtain ⟨hL, hLt, hsc⟩ := hS
  have hW : lw_H (hm (xc A P st mk lv cl pr us (nI n) si wk) (ym A P st mk pa ce wd us (nI n) si)) := ⟨n, A, P, st, mk, lv, cl, pr, us, si, wk, pa, ce, wd, hI, rfl⟩
  have hI0 := hI
  obtain ⟨hn, hA, hsh, hJ, hmk, hlv, hs0, hpa, hwd, hrel⟩ := hI
  have hA2 : ∀ m, m < n → q_arg (A m 3) m ∧ q_arg (A m 4) m := fun m hm => ⟨(hA m hm).1.1, (hA m hm).1.2.1⟩
  have hP := hJ.1
  have hP2 : ∀ m, m < n → q_arg (P m 3) m ∧ q_arg (P m 4) m := fun m hm => ⟨(hP m hm).1.1, (hP m hm).1.2.1⟩
  have hst := hI0.sts
  obtain ⟨y1, f1⟩ := hsc (6 * k + 1) (by omega)
  obtain ⟨y2, f2⟩ := hsc (6 * k + 2) (by omega)
  obtain ⟨y3, f3⟩ := hsc (6 * k + 3) (by omega)
  obtain ⟨y4, f4⟩ := hsc (6 * k + 4) (by omega)
  refine am_aload_n (i := 1) dL_law_96 rfl rfl ?_
  refine am_aload_n (i := 0) dL_law_97 rfl rfl ?_
  refine am_iload_n (i := 3) dL_law_98 rfl rfl ?_
  refine am_iconst (v := 1) dL_law_99 (by decide) ?_
  refine am_iadd dL_law_100 ?_
  refine am_sld dL_law_101 hL (nI_add (6 * k) 1) (by omega) hLt f1 ?_
  refine am_aload_n (i := 0) dL_law_102 rfl rfl ?_
  refine am_iload_n (i := 3) dL_law_103 rfl rfl ?_
  refine am_iconst (v := 2) dL_law_104 (by decide) ?_
  refine am_iadd dL_law_105 ?_
  refine am_sld dL_law_106 hL (nI_add (6 * k) 2) (by omega) hLt f2 ?_
  refine am_aload_n (i := 0) dL_law_107 rfl rfl ?_
  refine am_iload_n (i := 3) dL_law_108 rfl rfl ?_
  refine am_iconst (v := 3) dL_law_109 (by decide) ?_
  refine am_iadd dL_law_110 ?_
  refine am_sld dL_law_111 hL (nI_add (6 * k) 3) (by omega) hLt f3 ?_
  refine am_aload_n (i := 0) dL_law_112 rfl rfl ?_
  refine am_iload_n (i := 3) dL_law_113 rfl rfl ?_
  refine am_iconst (v := 4) dL_law_114 (by decide) ?_
  refine am_iadd dL_law_115 ?_
  refine am_sld dL_law_116 hL (nI_add (6 * k) 4) (by omega) hLt f4 ?_
  refine am_callV (ac' := 0) (as' := 0) (xs := [_, _, _, _]) dL_law_117 lkL_13 (by first | rfl | exact sk8 (by omega) | exact sk9 (by omega) | exact sk10 (by omega) | exact sk11 (by omega)) rfl rfl rfl rfl (Nat.le_of_ble_eq_true rfl) rfl rfl (cC_source hn hA2 (fun cr => ?_) (fun c1 cf => ?_) (fun c1 cn A1 T S L eA eT eS eL => ?_))
  · refine am_aload_n (i := 2) dL_law_120 rfl rfl ?_
    refine am_aload_n (i := 0) dL_law_121 rfl rfl ?_
    refine am_iload_n (i := 3) dL_law_122 rfl rfl ?_
    refine am_iconst (v := 1) dL_law_123 (by decide) ?_
    refine am_iadd dL_law_124 ?_
    refine am_sld dL_law_125 hL (nI_add (6 * k) 1) (by omega) hLt f1 ?_
    refine am_aload_n (i := 0) dL_law_126 rfl rfl ?_
    refine am_iload_n (i := 3) dL_law_127 rfl rfl ?_
    refine am_iconst (v := 2) dL_law_128 (by decide) ?_
    refine am_iadd dL_law_129 ?_
    refine am_sld dL_law_130 hL (nI_add (6 * k) 2) (by omega) hLt f2 ?_
    refine am_aload_n (i := 0) dL_law_131 rfl rfl ?_
    refine am_iload_n (i := 3) dL_law_132 rfl rfl ?_
    refine am_iconst (v := 3) dL_law_133 (by decide) ?_
    refine am_iadd dL_law_134 ?_
    refine am_sld dL_law_135 hL (nI_add (6 * k) 3) (by omega) hLt f3 ?_
    refine am_aload_n (i := 0) dL_law_136 rfl rfl ?_
    refine am_iload_n (i := 3) dL_law_137 rfl rfl ?_
    refine am_iconst (v := 4) dL_law_138 (by decide) ?_
    refine am_iadd dL_law_139 ?_
    refine am_sld dL_law_140 hL (nI_add (6 * k) 4) (by omega) hLt f4 ?_
    refine am_callV (ac' := 0) (as' := 0) (xs := [_, _, _, _]) dL_law_141 lkL_17 (by first | rfl | exact sk8 (by omega) | exact sk9 (by omega) | exact sk10 (by omega) | exact sk11 (by omega)) rfl rfl rfl rfl (Nat.le_of_ble_eq_true rfl) rfl rfl (cM_source hn hsh (hmk n (Nat.le_refl n)) (fun cr' => ?_) (fun c1' cf' => ?_) (fun c1' cn' A1' T' S' W eA' eT' eS' eW => ?_))
    · refine am_icmp_eq_T (tgt := 569) dL_law_144 (by decide) rfl ?_
      exact K _ hW
    · exact absurd c1' cr
    · exact absurd c1' cr
  · refine am_aload_n (i := 2) dL_law_120 rfl rfl ?_
    refine am_aload_n (i := 0) dL_law_121 rfl rfl ?_
    refine am_iload_n (i := 3) dL_law_122 rfl rfl ?_
    refine am_iconst (v := 1) dL_law_123 (by decide) ?_
    refine am_iadd dL_law_124 ?_
    refine am_sld dL_law_125 hL (nI_add (6 * k) 1) (by omega) hLt f1 ?_
    refine am_aload_n (i := 0) dL_law_126 rfl rfl ?_
    refine am_iload_n (i := 3) dL_law_127 rfl rfl ?_
    refine am_iconst (v := 2) dL_law_128 (by decide) ?_
    refine am_iadd dL_law_129 ?_
    refine am_sld dL_law_130 hL (nI_add (6 * k) 2) (by omega) hLt f2 ?_
    refine am_aload_n (i := 0) dL_law_131 rfl rfl ?_
    refine am_iload_n (i := 3) dL_law_132 rfl rfl ?_
    refine am_iconst (v := 3) dL_law_133 (by decide) ?_
    refine am_iadd dL_law_134 ?_
    refine am_sld dL_law_135 hL (nI_add (6 * k) 3) (by omega) hLt f3 ?_
    refine am_aload_n (i := 0) dL_law_136 rfl rfl ?_
    refine am_iload_n (i := 3) dL_law_137 rfl rfl ?_
    refine am_iconst (v := 4) dL_law_138 (by decide) ?_
    refine am_iadd dL_law_139 ?_
    refine am_sld dL_law_140 hL (nI_add (6 * k) 4) (by omega) hLt f4 ?_
    refine am_callV (ac' := 0) (as' := 0) (xs := [_, _, _, _]) dL_law_141 lkL_17 (by first | rfl | exact sk8 (by omega) | exact sk9 (by omega) | exact sk10 (by omega) | exact sk11 (by omega)) rfl rfl rfl rfl (Nat.le_of_ble_eq_true rfl) rfl rfl (cM_source hn hsh (hmk n (Nat.le_refl n)) (fun cr' => ?_) (fun c1' cf' => ?_) (fun c1' cn' A1' T' S' W eA' eT' eS' eW => ?_))
    · exact absurd c1 cr'
    · refine am_icmp_eq_T (tgt := 569) dL_law_144 (by decide) rfl ?_
      exact K _ hW
    · exfalso
      omega
  · refine am_aload_n (i := 2) dL_law_120 rfl rfl ?_
    refine am_aload_n (i := 0) dL_law_121 rfl rfl ?_
    refine am_iload_n (i := 3) dL_law_122 rfl rfl ?_
    refine am_iconst (v := 1) dL_law_123 (by decide) ?_
    refine am_iadd dL_law_124 ?_
    refine am_sld dL_law_125 hL (nI_add (6 * k) 1) (by omega) hLt f1 ?_
    refine am_aload_n (i := 0) dL_law_126 rfl rfl ?_
    refine am_iload_n (i := 3) dL_law_127 rfl rfl ?_
    refine am_iconst (v := 2) dL_law_128 (by decide) ?_
    refine am_iadd dL_law_129 ?_
    refine am_sld dL_law_130 hL (nI_add (6 * k) 2) (by omega) hLt f2 ?_
    refine am_aload_n (i := 0) dL_law_131 rfl rfl ?_
    refine am_iload_n (i := 3) dL_law_132 rfl rfl ?_
    refine am_iconst (v := 3) dL_law_133 (by decide) ?_
    refine am_iadd dL_law_134 ?_
    refine am_sld dL_law_135 hL (nI_add (6 * k) 3) (by omega) hLt f3 ?_
    refine am_aload_n (i := 0) dL_law_136 rfl rfl ?_
    refine am_iload_n (i := 3) dL_law_137 rfl rfl ?_
    refine am_iconst (v := 4) dL_law_138 (by decide) ?_
    refine am_iadd dL_law_139 ?_
    refine am_sld dL_law_140 hL (nI_add (6 * k) 4) (by omega) hLt f4 ?_
    refine am_callV (ac' := 0) (as' := 0) (xs := [_, _, _, _]) dL_law_141 lkL_17 (by first | rfl | exact sk8 (by omega) | exact sk9 (by omega) | exact sk10 (by omega) | exact sk11 (by omega)) rfl rfl rfl rfl (Nat.le_of_ble_eq_true rfl) rfl rfl (cM_source hn hsh (hmk n (Nat.le_refl n)) (fun cr' => ?_) (fun c1' cf' => ?_) (fun c1' cn' A1' T' S' W eA' eT' eS' eW => ?_))
    · exact absurd c1 cr'
    · exfalso
      omega
    · obtain rfl : A1' = A1 := eA'.trans eA.symm
      obtain rfl : T' = T := eT'.trans eT.symm
      obtain rfl : S' = S := eS'.trans eS.symm
      refine am_icmp_eq_T (tgt := 569) dL_law_144 (by decide) rfl ?_
      have hA1 : ∀ v, v < n + 1 → q_ok A1' v := by
        rw [eA]
        exact q_new_all cn hA (q_src_ok c1)
      exact K _ ⟨n + 1, _, _, _, mk, L, cl, pr, us, 0, 0, pa, ce, W, q_I_undo (by omega) hA1 (fun v hv => hmk v (by omega)) hpa eT eS eL eW, rfl⟩
set_option maxRecDepth 100000 in
set_option maxHeartbeats 4000000 in
theorem lL_1 {g : am_G} {Q : Option am_V → am_H → Prop} {L0 k n : Nat} {A P : Nat → Nat → Int32} {st mk lv : Nat → Int32} {cl pr : Nat → Nat → Int32} {us : Nat → Int32} {si wk : Int32} {pa ce wd : Nat → Int32} (hS : lw_S g L0) (hk : 6 * k + 6 ≤ L0) (hI : q_I n A P st mk lv cl pr si wk pa ce wd) (K : ∀ h, lw_H h → am_T g mL_law 5 0 0 569 [some (am_O 100 0), some (am_O 0 0), some (am_O 20 0), some (am_I (nI (6 * k)))] [] h Q) : am_T g mL_law 5 0 0 149 [some (am_O 100 0), some (am_O 0 0), some (am_O 20 0), some (am_I (nI (6 * k)))] [] (hm (xc A P st mk lv cl pr us (nI n) si wk) (ym A P st mk pa ce wd us (nI n) si)) Q := by
  obtain ⟨hL, hLt, hsc⟩ := hS
  have hW : lw_H (hm (xc A P st mk lv cl pr us (nI n) si wk) (ym A P st mk pa ce wd us (nI n) si)) := ⟨n, A, P, st, mk, lv, cl, pr, us, si, wk, pa, ce, wd, hI, rfl⟩
  have hI0 := hI
  obtain ⟨hn, hA, hsh, hJ, hmk, hlv, hs0, hpa, hwd, hrel⟩ := hI
  have hA2 : ∀ m, m < n → q_arg (A m 3) m ∧ q_arg (A m 4) m := fun m hm => ⟨(hA m hm).1.1, (hA m hm).1.2.1⟩
  have hP := hJ.1
  have hP2 : ∀ m, m < n → q_arg (P m 3) m ∧ q_arg (P m 4) m := fun m hm => ⟨(hP m hm).1.1, (hP m hm).1.2.1⟩
  have hst := hI0.sts
  obtain ⟨y1, f1⟩ := hsc (6 * k + 1) (by omega)
  obtain ⟨y2, f2⟩ := hsc (6 * k + 2) (by omega)
  obtain ⟨y3, f3⟩ := hsc (6 * k + 3) (by omega)
  obtain ⟨y4, f4⟩ := hsc (6 * k + 4) (by omega)
  refine am_aload_n (i := 1) dL_law_149 rfl rfl ?_
  refine am_aload_n (i := 0) dL_law_150 rfl rfl ?_
  refine am_iload_n (i := 3) dL_law_151 rfl rfl ?_
  refine am_iconst (v := 1) dL_law_152 (by decide) ?_
  refine am_iadd dL_law_153 ?_
  refine am_sld dL_law_154 hL (nI_add (6 * k) 1) (by omega) hLt f1 ?_
  refine am_aload_n (i := 0) dL_law_155 rfl rfl ?_
  refine am_iload_n (i := 3) dL_law_156 rfl rfl ?_
  refine am_iconst (v := 2) dL_law_157 (by decide) ?_
  refine am_iadd dL_law_158 ?_
  refine am_sld dL_law_159 hL (nI_add (6 * k) 2) (by omega) hLt f2 ?_
  refine am_aload_n (i := 0) dL_law_160 rfl rfl ?_
  refine am_iload_n (i := 3) dL_law_161 rfl rfl ?_
  refine am_iconst (v := 3) dL_law_162 (by decide) ?_
  refine am_iadd dL_law_163 ?_
  refine am_sld dL_law_164 hL (nI_add (6 * k) 3) (by omega) hLt f3 ?_
  refine am_aload_n (i := 0) dL_law_165 rfl rfl ?_
  refine am_iload_n (i := 3) dL_law_166 rfl rfl ?_
  refine am_iconst (v := 4) dL_law_167 (by decide) ?_
  refine am_iadd dL_law_168 ?_
  refine am_sld dL_law_169 hL (nI_add (6 * k) 4) (by omega) hLt f4 ?_
  refine am_callV (ac' := 0) (as' := 0) (xs := [_, _, _, _]) dL_law_170 lkL_18 (by first | rfl | exact sk8 (by omega) | exact sk9 (by omega) | exact sk10 (by omega) | exact sk11 (by omega)) rfl rfl rfl rfl (Nat.le_of_ble_eq_true rfl) rfl rfl (cC_operation hn hA2 (fun cr => ?_) (fun a b ha hb ea eb c1 cs => ?_) (fun a b ha hb ea eb c1 cs cf => ?_) (fun a b ha hb ea eb c1 cs cn A1 T S L eA eT eS eL => ?_))
  · refine am_aload_n (i := 2) dL_law_173 rfl rfl ?_
    refine am_aload_n (i := 0) dL_law_174 rfl rfl ?_
    refine am_iload_n (i := 3) dL_law_175 rfl rfl ?_
    refine am_iconst (v := 1) dL_law_176 (by decide) ?_
    refine am_iadd dL_law_177 ?_
    refine am_sld dL_law_178 hL (nI_add (6 * k) 1) (by omega) hLt f1 ?_
    refine am_aload_n (i := 0) dL_law_179 rfl rfl ?_
    refine am_iload_n (i := 3) dL_law_180 rfl rfl ?_
    refine am_iconst (v := 2) dL_law_181 (by decide) ?_
    refine am_iadd dL_law_182 ?_
    refine am_sld dL_law_183 hL (nI_add (6 * k) 2) (by omega) hLt f2 ?_
    refine am_aload_n (i := 0) dL_law_184 rfl rfl ?_
    refine am_iload_n (i := 3) dL_law_185 rfl rfl ?_
    refine am_iconst (v := 3) dL_law_186 (by decide) ?_
    refine am_iadd dL_law_187 ?_
    refine am_sld dL_law_188 hL (nI_add (6 * k) 3) (by omega) hLt f3 ?_
    refine am_aload_n (i := 0) dL_law_189 rfl rfl ?_
    refine am_iload_n (i := 3) dL_law_190 rfl rfl ?_
    refine am_iconst (v := 4) dL_law_191 (by decide) ?_
    refine am_iadd dL_law_192 ?_
    refine am_sld dL_law_193 hL (nI_add (6 * k) 4) (by omega) hLt f4 ?_
    refine am_callV (ac' := 0) (as' := 0) (xs := [_, _, _, _]) dL_law_194 lkL_21 (by first | rfl | exact sk8 (by omega) | exact sk9 (by omega) | exact sk10 (by omega) | exact sk11 (by omega)) rfl rfl rfl rfl (Nat.le_of_ble_eq_true rfl) rfl rfl (cM_operation hn hsh (hmk n (Nat.le_refl n)) (fun cr' => ?_) (fun a' b' ha' hb' ea' eb' c1' cs' => ?_) (fun a' b' ha' hb' ea' eb' c1' cs' cf' => ?_) (fun a' b' ha' hb' ea' eb' c1' cs' cn' A1' T' S' W eA' eT' eS' eW => ?_))
    · refine am_icmp_eq_T (tgt := 569) dL_law_197 (by decide) rfl ?_
      exact K _ hW
    · exact absurd c1' cr
    · exact absurd c1' cr
    · exact absurd c1' cr
  · refine am_aload_n (i := 2) dL_law_173 rfl rfl ?_
    refine am_aload_n (i := 0) dL_law_174 rfl rfl ?_
    refine am_iload_n (i := 3) dL_law_175 rfl rfl ?_
    refine am_iconst (v := 1) dL_law_176 (by decide) ?_
    refine am_iadd dL_law_177 ?_
    refine am_sld dL_law_178 hL (nI_add (6 * k) 1) (by omega) hLt f1 ?_
    refine am_aload_n (i := 0) dL_law_179 rfl rfl ?_
    refine am_iload_n (i := 3) dL_law_180 rfl rfl ?_
    refine am_iconst (v := 2) dL_law_181 (by decide) ?_
    refine am_iadd dL_law_182 ?_
    refine am_sld dL_law_183 hL (nI_add (6 * k) 2) (by omega) hLt f2 ?_
    refine am_aload_n (i := 0) dL_law_184 rfl rfl ?_
    refine am_iload_n (i := 3) dL_law_185 rfl rfl ?_
    refine am_iconst (v := 3) dL_law_186 (by decide) ?_
    refine am_iadd dL_law_187 ?_
    refine am_sld dL_law_188 hL (nI_add (6 * k) 3) (by omega) hLt f3 ?_
    refine am_aload_n (i := 0) dL_law_189 rfl rfl ?_
    refine am_iload_n (i := 3) dL_law_190 rfl rfl ?_
    refine am_iconst (v := 4) dL_law_191 (by decide) ?_
    refine am_iadd dL_law_192 ?_
    refine am_sld dL_law_193 hL (nI_add (6 * k) 4) (by omega) hLt f4 ?_
    refine am_callV (ac' := 0) (as' := 0) (xs := [_, _, _, _]) dL_law_194 lkL_21 (by first | rfl | exact sk8 (by omega) | exact sk9 (by omega) | exact sk10 (by omega) | exact sk11 (by omega)) rfl rfl rfl rfl (Nat.le_of_ble_eq_true rfl) rfl rfl (cM_operation hn hsh (hmk n (Nat.le_refl n)) (fun cr' => ?_) (fun a' b' ha' hb' ea' eb' c1' cs' => ?_) (fun a' b' ha' hb' ea' eb' c1' cs' cf' => ?_) (fun a' b' ha' hb' ea' eb' c1' cs' cn' A1' T' S' W eA' eT' eS' eW => ?_))
    · exact absurd c1 cr'
    · refine am_icmp_eq_T (tgt := 569) dL_law_197 (by decide) rfl ?_
      exact K _ hW
    · have qa : a' = a := nI_inj (by omega) (by omega) (ea'.symm.trans ea)
      subst qa
      have qb : b' = b := nI_inj (by omega) (by omega) (eb'.symm.trans eb)
      subst qb
      exact absurd cs' cs
    · have qa : a' = a := nI_inj (by omega) (by omega) (ea'.symm.trans ea)
      subst qa
      have qb : b' = b := nI_inj (by omega) (by omega) (eb'.symm.trans eb)
      subst qb
      exact absurd cs' cs
  · refine am_aload_n (i := 2) dL_law_173 rfl rfl ?_
    refine am_aload_n (i := 0) dL_law_174 rfl rfl ?_
    refine am_iload_n (i := 3) dL_law_175 rfl rfl ?_
    refine am_iconst (v := 1) dL_law_176 (by decide) ?_
    refine am_iadd dL_law_177 ?_
    refine am_sld dL_law_178 hL (nI_add (6 * k) 1) (by omega) hLt f1 ?_
    refine am_aload_n (i := 0) dL_law_179 rfl rfl ?_
    refine am_iload_n (i := 3) dL_law_180 rfl rfl ?_
    refine am_iconst (v := 2) dL_law_181 (by decide) ?_
    refine am_iadd dL_law_182 ?_
    refine am_sld dL_law_183 hL (nI_add (6 * k) 2) (by omega) hLt f2 ?_
    refine am_aload_n (i := 0) dL_law_184 rfl rfl ?_
    refine am_iload_n (i := 3) dL_law_185 rfl rfl ?_
    refine am_iconst (v := 3) dL_law_186 (by decide) ?_
    refine am_iadd dL_law_187 ?_
    refine am_sld dL_law_188 hL (nI_add (6 * k) 3) (by omega) hLt f3 ?_
    refine am_aload_n (i := 0) dL_law_189 rfl rfl ?_
    refine am_iload_n (i := 3) dL_law_190 rfl rfl ?_
    refine am_iconst (v := 4) dL_law_191 (by decide) ?_
    refine am_iadd dL_law_192 ?_
    refine am_sld dL_law_193 hL (nI_add (6 * k) 4) (by omega) hLt f4 ?_
    refine am_callV (ac' := 0) (as' := 0) (xs := [_, _, _, _]) dL_law_194 lkL_21 (by first | rfl | exact sk8 (by omega) | exact sk9 (by omega) | exact sk10 (by omega) | exact sk11 (by omega)) rfl rfl rfl rfl (Nat.le_of_ble_eq_true rfl) rfl rfl (cM_operation hn hsh (hmk n (Nat.le_refl n)) (fun cr' => ?_) (fun a' b' ha' hb' ea' eb' c1' cs' => ?_) (fun a' b' ha' hb' ea' eb' c1' cs' cf' => ?_) (fun a' b' ha' hb' ea' eb' c1' cs' cn' A1' T' S' W eA' eT' eS' eW => ?_))
    · exact absurd c1 cr'
    · have qa : a' = a := nI_inj (by omega) (by omega) (ea'.symm.trans ea)
      subst qa
      have qb : b' = b := nI_inj (by omega) (by omega) (eb'.symm.trans eb)
      subst qb
      exact absurd cs cs'
    · refine am_icmp_eq_T (tgt := 569) dL_law_197 (by decide) rfl ?_
      exact K _ hW
    · exfalso
      omega
  · refine am_aload_n (i := 2) dL_law_173 rfl rfl ?_
    refine am_aload_n (i := 0) dL_law_174 rfl rfl ?_
    refine am_iload_n (i := 3) dL_law_175 rfl rfl ?_
    refine am_iconst (v := 1) dL_law_176 (by decide) ?_
    refine am_iadd dL_law_177 ?_
    refine am_sld dL_law_178 hL (nI_add (6 * k) 1) (by omega) hLt f1 ?_
    refine am_aload_n (i := 0) dL_law_179 rfl rfl ?_
    refine am_iload_n (i := 3) dL_law_180 rfl rfl ?_
    refine am_iconst (v := 2) dL_law_181 (by decide) ?_
    refine am_iadd dL_law_182 ?_
    refine am_sld dL_law_183 hL (nI_add (6 * k) 2) (by omega) hLt f2 ?_
    refine am_aload_n (i := 0) dL_law_184 rfl rfl ?_
    refine am_iload_n (i := 3) dL_law_185 rfl rfl ?_
    refine am_iconst (v := 3) dL_law_186 (by decide) ?_
    refine am_iadd dL_law_187 ?_
    refine am_sld dL_law_188 hL (nI_add (6 * k) 3) (by omega) hLt f3 ?_
    refine am_aload_n (i := 0) dL_law_189 rfl rfl ?_
    refine am_iload_n (i := 3) dL_law_190 rfl rfl ?_
    refine am_iconst (v := 4) dL_law_191 (by decide) ?_
    refine am_iadd dL_law_192 ?_
    refine am_sld dL_law_193 hL (nI_add (6 * k) 4) (by omega) hLt f4 ?_
    refine am_callV (ac' := 0) (as' := 0) (xs := [_, _, _, _]) dL_law_194 lkL_21 (by first | rfl | exact sk8 (by omega) | exact sk9 (by omega) | exact sk10 (by omega) | exact sk11 (by omega)) rfl rfl rfl rfl (Nat.le_of_ble_eq_true rfl) rfl rfl (cM_operation hn hsh (hmk n (Nat.le_refl n)) (fun cr' => ?_) (fun a' b' ha' hb' ea' eb' c1' cs' => ?_) (fun a' b' ha' hb' ea' eb' c1' cs' cf' => ?_) (fun a' b' ha' hb' ea' eb' c1' cs' cn' A1' T' S' W eA' eT' eS' eW => ?_))
    · exact absurd c1 cr'
    · have qa : a' = a := nI_inj (by omega) (by omega) (ea'.symm.trans ea)
      subst qa
      have qb : b' = b := nI_inj (by omega) (by omega) (eb'.symm.trans eb)
      subst qb
      exact absurd cs cs'
    · exfalso
      omega
    · have qa : a' = a := nI_inj (by omega) (by omega) (ea'.symm.trans ea)
      subst qa
      have qb : b' = b := nI_inj (by omega) (by omega) (eb'.symm.trans eb)
      subst qb
      obtain rfl : A1' = A1 := eA'.trans eA.symm
      obtain rfl : T' = T := eT'.trans eT.symm
      obtain rfl : S' = S := eS'.trans eS.symm
      refine am_icmp_eq_T (tgt := 569) dL_law_197 (by decide) rfl ?_
      have hA1 : ∀ v, v < n + 1 → q_ok A1' v := by
        rw [eA]
        exact q_new_all cn hA (q_op_ok hA cn ha hb ea eb c1 cs)
      exact K _ ⟨n + 1, _, _, _, mk, L, cl, pr, us, 0, 0, pa, ce, W, q_I_undo (by omega) hA1 (fun v hv => hmk v (by omega)) hpa eT eS eL eW, rfl⟩
set_option maxRecDepth 100000 in
set_option maxHeartbeats 4000000 in
theorem lL_2 {g : am_G} {Q : Option am_V → am_H → Prop} {L0 k n : Nat} {A P : Nat → Nat → Int32} {st mk lv : Nat → Int32} {cl pr : Nat → Nat → Int32} {us : Nat → Int32} {si wk : Int32} {pa ce wd : Nat → Int32} (hS : lw_S g L0) (hk : 6 * k + 6 ≤ L0) (hI : q_I n A P st mk lv cl pr si wk pa ce wd) (K : ∀ h, lw_H h → am_T g mL_law 5 0 0 569 [some (am_O 100 0), some (am_O 0 0), some (am_O 20 0), some (am_I (nI (6 * k)))] [] h Q) : am_T g mL_law 5 0 0 202 [some (am_O 100 0), some (am_O 0 0), some (am_O 20 0), some (am_I (nI (6 * k)))] [] (hm (xc A P st mk lv cl pr us (nI n) si wk) (ym A P st mk pa ce wd us (nI n) si)) Q := by
  obtain ⟨hL, hLt, hsc⟩ := hS
  have hW : lw_H (hm (xc A P st mk lv cl pr us (nI n) si wk) (ym A P st mk pa ce wd us (nI n) si)) := ⟨n, A, P, st, mk, lv, cl, pr, us, si, wk, pa, ce, wd, hI, rfl⟩
  have hI0 := hI
  obtain ⟨hn, hA, hsh, hJ, hmk, hlv, hs0, hpa, hwd, hrel⟩ := hI
  have hA2 : ∀ m, m < n → q_arg (A m 3) m ∧ q_arg (A m 4) m := fun m hm => ⟨(hA m hm).1.1, (hA m hm).1.2.1⟩
  have hP := hJ.1
  have hP2 : ∀ m, m < n → q_arg (P m 3) m ∧ q_arg (P m 4) m := fun m hm => ⟨(hP m hm).1.1, (hP m hm).1.2.1⟩
  have hst := hI0.sts
  obtain ⟨y1, f1⟩ := hsc (6 * k + 1) (by omega)
  obtain ⟨y2, f2⟩ := hsc (6 * k + 2) (by omega)
  obtain ⟨y3, f3⟩ := hsc (6 * k + 3) (by omega)
  obtain ⟨y4, f4⟩ := hsc (6 * k + 4) (by omega)
  refine am_aload_n (i := 1) dL_law_202 rfl rfl ?_
  refine am_aload_n (i := 0) dL_law_203 rfl rfl ?_
  refine am_iload_n (i := 3) dL_law_204 rfl rfl ?_
  refine am_iconst (v := 1) dL_law_205 (by decide) ?_
  refine am_iadd dL_law_206 ?_
  refine am_sld dL_law_207 hL (nI_add (6 * k) 1) (by omega) hLt f1 ?_
  refine am_aload_n (i := 0) dL_law_208 rfl rfl ?_
  refine am_iload_n (i := 3) dL_law_209 rfl rfl ?_
  refine am_iconst (v := 2) dL_law_210 (by decide) ?_
  refine am_iadd dL_law_211 ?_
  refine am_sld dL_law_212 hL (nI_add (6 * k) 2) (by omega) hLt f2 ?_
  refine am_aload_n (i := 0) dL_law_213 rfl rfl ?_
  refine am_iload_n (i := 3) dL_law_214 rfl rfl ?_
  refine am_iconst (v := 3) dL_law_215 (by decide) ?_
  refine am_iadd dL_law_216 ?_
  refine am_sld dL_law_217 hL (nI_add (6 * k) 3) (by omega) hLt f3 ?_
  refine am_aload_n (i := 0) dL_law_218 rfl rfl ?_
  refine am_iload_n (i := 3) dL_law_219 rfl rfl ?_
  refine am_iconst (v := 4) dL_law_220 (by decide) ?_
  refine am_iadd dL_law_221 ?_
  refine am_sld dL_law_222 hL (nI_add (6 * k) 4) (by omega) hLt f4 ?_
  refine am_callV (ac' := 0) (as' := 0) (xs := [_, _, _, _]) dL_law_223 lkL_22 (by first | rfl | exact sk8 (by omega) | exact sk9 (by omega) | exact sk10 (by omega) | exact sk11 (by omega)) rfl rfl rfl rfl (Nat.le_of_ble_eq_true rfl) rfl rfl (cC_reshape hn hA2 (fun cr => ?_) (fun a ha ea c1 cs => ?_) (fun a ha ea c1 cs cf => ?_) (fun a ha ea c1 cs cn A1 T S L eA eT eS eL => ?_))
  · refine am_aload_n (i := 2) dL_law_226 rfl rfl ?_
    refine am_aload_n (i := 0) dL_law_227 rfl rfl ?_
    refine am_iload_n (i := 3) dL_law_228 rfl rfl ?_
    refine am_iconst (v := 1) dL_law_229 (by decide) ?_
    refine am_iadd dL_law_230 ?_
    refine am_sld dL_law_231 hL (nI_add (6 * k) 1) (by omega) hLt f1 ?_
    refine am_aload_n (i := 0) dL_law_232 rfl rfl ?_
    refine am_iload_n (i := 3) dL_law_233 rfl rfl ?_
    refine am_iconst (v := 2) dL_law_234 (by decide) ?_
    refine am_iadd dL_law_235 ?_
    refine am_sld dL_law_236 hL (nI_add (6 * k) 2) (by omega) hLt f2 ?_
    refine am_aload_n (i := 0) dL_law_237 rfl rfl ?_
    refine am_iload_n (i := 3) dL_law_238 rfl rfl ?_
    refine am_iconst (v := 3) dL_law_239 (by decide) ?_
    refine am_iadd dL_law_240 ?_
    refine am_sld dL_law_241 hL (nI_add (6 * k) 3) (by omega) hLt f3 ?_
    refine am_aload_n (i := 0) dL_law_242 rfl rfl ?_
    refine am_iload_n (i := 3) dL_law_243 rfl rfl ?_
    refine am_iconst (v := 4) dL_law_244 (by decide) ?_
    refine am_iadd dL_law_245 ?_
    refine am_sld dL_law_246 hL (nI_add (6 * k) 4) (by omega) hLt f4 ?_
    refine am_callV (ac' := 0) (as' := 0) (xs := [_, _, _, _]) dL_law_247 lkL_25 (by first | rfl | exact sk8 (by omega) | exact sk9 (by omega) | exact sk10 (by omega) | exact sk11 (by omega)) rfl rfl rfl rfl (Nat.le_of_ble_eq_true rfl) rfl rfl (cM_reshape hn hsh (hmk n (Nat.le_refl n)) (fun cr' => ?_) (fun a' ha' ea' c1' cs' => ?_) (fun a' ha' ea' c1' cs' cf' => ?_) (fun a' ha' ea' c1' cs' cn' A1' T' S' W eA' eT' eS' eW => ?_))
    · refine am_icmp_eq_T (tgt := 569) dL_law_250 (by decide) rfl ?_
      exact K _ hW
    · exact absurd c1' cr
    · exact absurd c1' cr
    · exact absurd c1' cr
  · refine am_aload_n (i := 2) dL_law_226 rfl rfl ?_
    refine am_aload_n (i := 0) dL_law_227 rfl rfl ?_
    refine am_iload_n (i := 3) dL_law_228 rfl rfl ?_
    refine am_iconst (v := 1) dL_law_229 (by decide) ?_
    refine am_iadd dL_law_230 ?_
    refine am_sld dL_law_231 hL (nI_add (6 * k) 1) (by omega) hLt f1 ?_
    refine am_aload_n (i := 0) dL_law_232 rfl rfl ?_
    refine am_iload_n (i := 3) dL_law_233 rfl rfl ?_
    refine am_iconst (v := 2) dL_law_234 (by decide) ?_
    refine am_iadd dL_law_235 ?_
    refine am_sld dL_law_236 hL (nI_add (6 * k) 2) (by omega) hLt f2 ?_
    refine am_aload_n (i := 0) dL_law_237 rfl rfl ?_
    refine am_iload_n (i := 3) dL_law_238 rfl rfl ?_
    refine am_iconst (v := 3) dL_law_239 (by decide) ?_
    refine am_iadd dL_law_240 ?_
    refine am_sld dL_law_241 hL (nI_add (6 * k) 3) (by omega) hLt f3 ?_
    refine am_aload_n (i := 0) dL_law_242 rfl rfl ?_
    refine am_iload_n (i := 3) dL_law_243 rfl rfl ?_
    refine am_iconst (v := 4) dL_law_244 (by decide) ?_
    refine am_iadd dL_law_245 ?_
    refine am_sld dL_law_246 hL (nI_add (6 * k) 4) (by omega) hLt f4 ?_
    refine am_callV (ac' := 0) (as' := 0) (xs := [_, _, _, _]) dL_law_247 lkL_25 (by first | rfl | exact sk8 (by omega) | exact sk9 (by omega) | exact sk10 (by omega) | exact sk11 (by omega)) rfl rfl rfl rfl (Nat.le_of_ble_eq_true rfl) rfl rfl (cM_reshape hn hsh (hmk n (Nat.le_refl n)) (fun cr' => ?_) (fun a' ha' ea' c1' cs' => ?_) (fun a' ha' ea' c1' cs' cf' => ?_) (fun a' ha' ea' c1' cs' cn' A1' T' S' W eA' eT' eS' eW => ?_))
    · exact absurd c1 cr'
    · refine am_icmp_eq_T (tgt := 569) dL_law_250 (by decide) rfl ?_
      exact K _ hW
    · have qa : a' = a := nI_inj (by omega) (by omega) (ea'.symm.trans ea)
      subst qa
      exact absurd cs' cs
    · have qa : a' = a := nI_inj (by omega) (by omega) (ea'.symm.trans ea)
      subst qa
      exact absurd cs' cs
  · refine am_aload_n (i := 2) dL_law_226 rfl rfl ?_
    refine am_aload_n (i := 0) dL_law_227 rfl rfl ?_
    refine am_iload_n (i := 3) dL_law_228 rfl rfl ?_
    refine am_iconst (v := 1) dL_law_229 (by decide) ?_
    refine am_iadd dL_law_230 ?_
    refine am_sld dL_law_231 hL (nI_add (6 * k) 1) (by omega) hLt f1 ?_
    refine am_aload_n (i := 0) dL_law_232 rfl rfl ?_
    refine am_iload_n (i := 3) dL_law_233 rfl rfl ?_
    refine am_iconst (v := 2) dL_law_234 (by decide) ?_
    refine am_iadd dL_law_235 ?_
    refine am_sld dL_law_236 hL (nI_add (6 * k) 2) (by omega) hLt f2 ?_
    refine am_aload_n (i := 0) dL_law_237 rfl rfl ?_
    refine am_iload_n (i := 3) dL_law_238 rfl rfl ?_
    refine am_iconst (v := 3) dL_law_239 (by decide) ?_
    refine am_iadd dL_law_240 ?_
    refine am_sld dL_law_241 hL (nI_add (6 * k) 3) (by omega) hLt f3 ?_
    refine am_aload_n (i := 0) dL_law_242 rfl rfl ?_
    refine am_iload_n (i := 3) dL_law_243 rfl rfl ?_
    refine am_iconst (v := 4) dL_law_244 (by decide) ?_
    refine am_iadd dL_law_245 ?_
    refine am_sld dL_law_246 hL (nI_add (6 * k) 4) (by omega) hLt f4 ?_
    refine am_callV (ac' := 0) (as' := 0) (xs := [_, _, _, _]) dL_law_247 lkL_25 (by first | rfl | exact sk8 (by omega) | exact sk9 (by omega) | exact sk10 (by omega) | exact sk11 (by omega)) rfl rfl rfl rfl (Nat.le_of_ble_eq_true rfl) rfl rfl (cM_reshape hn hsh (hmk n (Nat.le_refl n)) (fun cr' => ?_) (fun a' ha' ea' c1' cs' => ?_) (fun a' ha' ea' c1' cs' cf' => ?_) (fun a' ha' ea' c1' cs' cn' A1' T' S' W eA' eT' eS' eW => ?_))
    · exact absurd c1 cr'
    · have qa : a' = a := nI_inj (by omega) (by omega) (ea'.symm.trans ea)
      subst qa
      exact absurd cs cs'
    · refine am_icmp_eq_T (tgt := 569) dL_law_250 (by decide) rfl ?_
      exact K _ hW
    · exfalso
      omega
  · refine am_aload_n (i := 2) dL_law_226 rfl rfl ?_
    refine am_aload_n (i := 0) dL_law_227 rfl rfl ?_
    refine am_iload_n (i := 3) dL_law_228 rfl rfl ?_
    refine am_iconst (v := 1) dL_law_229 (by decide) ?_
    refine am_iadd dL_law_230 ?_
    refine am_sld dL_law_231 hL (nI_add (6 * k) 1) (by omega) hLt f1 ?_
    refine am_aload_n (i := 0) dL_law_232 rfl rfl ?_
    refine am_iload_n (i := 3) dL_law_233 rfl rfl ?_
    refine am_iconst (v := 2) dL_law_234 (by decide) ?_
    refine am_iadd dL_law_235 ?_
    refine am_sld dL_law_236 hL (nI_add (6 * k) 2) (by omega) hLt f2 ?_
    refine am_aload_n (i := 0) dL_law_237 rfl rfl ?_
    refine am_iload_n (i := 3) dL_law_238 rfl rfl ?_
    refine am_iconst (v := 3) dL_law_239 (by decide) ?_
    refine am_iadd dL_law_240 ?_
    refine am_sld dL_law_241 hL (nI_add (6 * k) 3) (by omega) hLt f3 ?_
    refine am_aload_n (i := 0) dL_law_242 rfl rfl ?_
    refine am_iload_n (i := 3) dL_law_243 rfl rfl ?_
    refine am_iconst (v := 4) dL_law_244 (by decide) ?_
    refine am_iadd dL_law_245 ?_
    refine am_sld dL_law_246 hL (nI_add (6 * k) 4) (by omega) hLt f4 ?_
    refine am_callV (ac' := 0) (as' := 0) (xs := [_, _, _, _]) dL_law_247 lkL_25 (by first | rfl | exact sk8 (by omega) | exact sk9 (by omega) | exact sk10 (by omega) | exact sk11 (by omega)) rfl rfl rfl rfl (Nat.le_of_ble_eq_true rfl) rfl rfl (cM_reshape hn hsh (hmk n (Nat.le_refl n)) (fun cr' => ?_) (fun a' ha' ea' c1' cs' => ?_) (fun a' ha' ea' c1' cs' cf' => ?_) (fun a' ha' ea' c1' cs' cn' A1' T' S' W eA' eT' eS' eW => ?_))
    · exact absurd c1 cr'
    · have qa : a' = a := nI_inj (by omega) (by omega) (ea'.symm.trans ea)
      subst qa
      exact absurd cs cs'
    · exfalso
      omega
    · have qa : a' = a := nI_inj (by omega) (by omega) (ea'.symm.trans ea)
      subst qa
      obtain rfl : A1' = A1 := eA'.trans eA.symm
      obtain rfl : T' = T := eT'.trans eT.symm
      obtain rfl : S' = S := eS'.trans eS.symm
      refine am_icmp_eq_T (tgt := 569) dL_law_250 (by decide) rfl ?_
      have hA1 : ∀ v, v < n + 1 → q_ok A1' v := by
        rw [eA]
        exact q_new_all cn hA (q_re_ok cn ha ea c1 cs)
      exact K _ ⟨n + 1, _, _, _, mk, L, cl, pr, us, 0, 0, pa, ce, W, q_I_undo (by omega) hA1 (fun v hv => hmk v (by omega)) hpa eT eS eL eW, rfl⟩
set_option maxRecDepth 100000 in
set_option maxHeartbeats 4000000 in
theorem lL_3 {g : am_G} {Q : Option am_V → am_H → Prop} {L0 k n : Nat} {A P : Nat → Nat → Int32} {st mk lv : Nat → Int32} {cl pr : Nat → Nat → Int32} {us : Nat → Int32} {si wk : Int32} {pa ce wd : Nat → Int32} (hS : lw_S g L0) (hk : 6 * k + 6 ≤ L0) (hI : q_I n A P st mk lv cl pr si wk pa ce wd) (K : ∀ h, lw_H h → am_T g mL_law 5 0 0 569 [some (am_O 100 0), some (am_O 0 0), some (am_O 20 0), some (am_I (nI (6 * k)))] [] h Q) : am_T g mL_law 5 0 0 255 [some (am_O 100 0), some (am_O 0 0), some (am_O 20 0), some (am_I (nI (6 * k)))] [] (hm (xc A P st mk lv cl pr us (nI n) si wk) (ym A P st mk pa ce wd us (nI n) si)) Q := by
  obtain ⟨hL, hLt, hsc⟩ := hS
  have hW : lw_H (hm (xc A P st mk lv cl pr us (nI n) si wk) (ym A P st mk pa ce wd us (nI n) si)) := ⟨n, A, P, st, mk, lv, cl, pr, us, si, wk, pa, ce, wd, hI, rfl⟩
  have hI0 := hI
  obtain ⟨hn, hA, hsh, hJ, hmk, hlv, hs0, hpa, hwd, hrel⟩ := hI
  have hA2 : ∀ m, m < n → q_arg (A m 3) m ∧ q_arg (A m 4) m := fun m hm => ⟨(hA m hm).1.1, (hA m hm).1.2.1⟩
  have hP := hJ.1
  have hP2 : ∀ m, m < n → q_arg (P m 3) m ∧ q_arg (P m 4) m := fun m hm => ⟨(hP m hm).1.1, (hP m hm).1.2.1⟩
  have hst := hI0.sts
  obtain ⟨y1, f1⟩ := hsc (6 * k + 1) (by omega)
  obtain ⟨y2, f2⟩ := hsc (6 * k + 2) (by omega)
  obtain ⟨y3, f3⟩ := hsc (6 * k + 3) (by omega)
  obtain ⟨y4, f4⟩ := hsc (6 * k + 4) (by omega)
  obtain ⟨y5, f5⟩ := hsc (6 * k + 5) (by omega)
  refine am_aload_n (i := 1) dL_law_255 rfl rfl ?_
  refine am_aload_n (i := 0) dL_law_256 rfl rfl ?_
  refine am_iload_n (i := 3) dL_law_257 rfl rfl ?_
  refine am_iconst (v := 1) dL_law_258 (by decide) ?_
  refine am_iadd dL_law_259 ?_
  refine am_sld dL_law_260 hL (nI_add (6 * k) 1) (by omega) hLt f1 ?_
  refine am_aload_n (i := 0) dL_law_261 rfl rfl ?_
  refine am_iload_n (i := 3) dL_law_262 rfl rfl ?_
  refine am_iconst (v := 2) dL_law_263 (by decide) ?_
  refine am_iadd dL_law_264 ?_
  refine am_sld dL_law_265 hL (nI_add (6 * k) 2) (by omega) hLt f2 ?_
  refine am_aload_n (i := 0) dL_law_266 rfl rfl ?_
  refine am_iload_n (i := 3) dL_law_267 rfl rfl ?_
  refine am_iconst (v := 3) dL_law_268 (by decide) ?_
  refine am_iadd dL_law_269 ?_
  refine am_sld dL_law_270 hL (nI_add (6 * k) 3) (by omega) hLt f3 ?_
  refine am_aload_n (i := 0) dL_law_271 rfl rfl ?_
  refine am_iload_n (i := 3) dL_law_272 rfl rfl ?_
  refine am_iconst (v := 4) dL_law_273 (by decide) ?_
  refine am_iadd dL_law_274 ?_
  refine am_sld dL_law_275 hL (nI_add (6 * k) 4) (by omega) hLt f4 ?_
  refine am_aload_n (i := 0) dL_law_276 rfl rfl ?_
  refine am_iload_n (i := 3) dL_law_277 rfl rfl ?_
  refine am_iconst (v := 5) dL_law_278 (by decide) ?_
  refine am_iadd dL_law_279 ?_
  refine am_sld dL_law_280 hL (nI_add (6 * k) 5) (by omega) hLt f5 ?_
  refine am_callV (ac' := 0) (as' := 0) (xs := [_, _, _, _, _]) dL_law_281 lkL_26 (by first | rfl | exact sk8 (by omega) | exact sk9 (by omega) | exact sk10 (by omega) | exact sk11 (by omega)) rfl rfl rfl rfl (Nat.le_of_ble_eq_true rfl) rfl rfl (cC_part hn hA2 (fun cr => ?_) (fun a ha ea c1 cs => ?_) (fun a ha ea c1 cs cf => ?_) (fun a ha ea c1 cs cn A1 T S L eA eT eS eL => ?_))
  · refine am_aload_n (i := 2) dL_law_284 rfl rfl ?_
    refine am_aload_n (i := 0) dL_law_285 rfl rfl ?_
    refine am_iload_n (i := 3) dL_law_286 rfl rfl ?_
    refine am_iconst (v := 1) dL_law_287 (by decide) ?_
    refine am_iadd dL_law_288 ?_
    refine am_sld dL_law_289 hL (nI_add (6 * k) 1) (by omega) hLt f1 ?_
    refine am_aload_n (i := 0) dL_law_290 rfl rfl ?_
    refine am_iload_n (i := 3) dL_law_291 rfl rfl ?_
    refine am_iconst (v := 2) dL_law_292 (by decide) ?_
    refine am_iadd dL_law_293 ?_
    refine am_sld dL_law_294 hL (nI_add (6 * k) 2) (by omega) hLt f2 ?_
    refine am_aload_n (i := 0) dL_law_295 rfl rfl ?_
    refine am_iload_n (i := 3) dL_law_296 rfl rfl ?_
    refine am_iconst (v := 3) dL_law_297 (by decide) ?_
    refine am_iadd dL_law_298 ?_
    refine am_sld dL_law_299 hL (nI_add (6 * k) 3) (by omega) hLt f3 ?_
    refine am_aload_n (i := 0) dL_law_300 rfl rfl ?_
    refine am_iload_n (i := 3) dL_law_301 rfl rfl ?_
    refine am_iconst (v := 4) dL_law_302 (by decide) ?_
    refine am_iadd dL_law_303 ?_
    refine am_sld dL_law_304 hL (nI_add (6 * k) 4) (by omega) hLt f4 ?_
    refine am_aload_n (i := 0) dL_law_305 rfl rfl ?_
    refine am_iload_n (i := 3) dL_law_306 rfl rfl ?_
    refine am_iconst (v := 5) dL_law_307 (by decide) ?_
    refine am_iadd dL_law_308 ?_
    refine am_sld dL_law_309 hL (nI_add (6 * k) 5) (by omega) hLt f5 ?_
    refine am_callV (ac' := 0) (as' := 0) (xs := [_, _, _, _, _]) dL_law_310 lkL_30 (by first | rfl | exact sk8 (by omega) | exact sk9 (by omega) | exact sk10 (by omega) | exact sk11 (by omega)) rfl rfl rfl rfl (Nat.le_of_ble_eq_true rfl) rfl rfl (cM_part hn hsh (hmk n (Nat.le_refl n)) (fun cr' => ?_) (fun a' ha' ea' c1' cs' => ?_) (fun a' ha' ea' c1' cs' cf' => ?_) (fun a' ha' ea' c1' cs' cn' A1' T' S' W eA' eT' eS' eW => ?_))
    · refine am_icmp_eq_T (tgt := 569) dL_law_313 (by decide) rfl ?_
      exact K _ hW
    · exact absurd c1' cr
    · exact absurd c1' cr
    · exact absurd c1' cr
  · refine am_aload_n (i := 2) dL_law_284 rfl rfl ?_
    refine am_aload_n (i := 0) dL_law_285 rfl rfl ?_
    refine am_iload_n (i := 3) dL_law_286 rfl rfl ?_
    refine am_iconst (v := 1) dL_law_287 (by decide) ?_
    refine am_iadd dL_law_288 ?_
    refine am_sld dL_law_289 hL (nI_add (6 * k) 1) (by omega) hLt f1 ?_
    refine am_aload_n (i := 0) dL_law_290 rfl rfl ?_
    refine am_iload_n (i := 3) dL_law_291 rfl rfl ?_
    refine am_iconst (v := 2) dL_law_292 (by decide) ?_
    refine am_iadd dL_law_293 ?_
    refine am_sld dL_law_294 hL (nI_add (6 * k) 2) (by omega) hLt f2 ?_
    refine am_aload_n (i := 0) dL_law_295 rfl rfl ?_
    refine am_iload_n (i := 3) dL_law_296 rfl rfl ?_
    refine am_iconst (v := 3) dL_law_297 (by decide) ?_
    refine am_iadd dL_law_298 ?_
    refine am_sld dL_law_299 hL (nI_add (6 * k) 3) (by omega) hLt f3 ?_
    refine am_aload_n (i := 0) dL_law_300 rfl rfl ?_
    refine am_iload_n (i := 3) dL_law_301 rfl rfl ?_
    refine am_iconst (v := 4) dL_law_302 (by decide) ?_
    refine am_iadd dL_law_303 ?_
    refine am_sld dL_law_304 hL (nI_add (6 * k) 4) (by omega) hLt f4 ?_
    refine am_aload_n (i := 0) dL_law_305 rfl rfl ?_
    refine am_iload_n (i := 3) dL_law_306 rfl rfl ?_
    refine am_iconst (v := 5) dL_law_307 (by decide) ?_
    refine am_iadd dL_law_308 ?_
    refine am_sld dL_law_309 hL (nI_add (6 * k) 5) (by omega) hLt f5 ?_
    refine am_callV (ac' := 0) (as' := 0) (xs := [_, _, _, _, _]) dL_law_310 lkL_30 (by first | rfl | exact sk8 (by omega) | exact sk9 (by omega) | exact sk10 (by omega) | exact sk11 (by omega)) rfl rfl rfl rfl (Nat.le_of_ble_eq_true rfl) rfl rfl (cM_part hn hsh (hmk n (Nat.le_refl n)) (fun cr' => ?_) (fun a' ha' ea' c1' cs' => ?_) (fun a' ha' ea' c1' cs' cf' => ?_) (fun a' ha' ea' c1' cs' cn' A1' T' S' W eA' eT' eS' eW => ?_))
    · exact absurd c1 cr'
    · refine am_icmp_eq_T (tgt := 569) dL_law_313 (by decide) rfl ?_
      exact K _ hW
    · have qa : a' = a := nI_inj (by omega) (by omega) (ea'.symm.trans ea)
      subst qa
      exact absurd cs' cs
    · have qa : a' = a := nI_inj (by omega) (by omega) (ea'.symm.trans ea)
      subst qa
      exact absurd cs' cs
  · refine am_aload_n (i := 2) dL_law_284 rfl rfl ?_
    refine am_aload_n (i := 0) dL_law_285 rfl rfl ?_
    refine am_iload_n (i := 3) dL_law_286 rfl rfl ?_
    refine am_iconst (v := 1) dL_law_287 (by decide) ?_
    refine am_iadd dL_law_288 ?_
    refine am_sld dL_law_289 hL (nI_add (6 * k) 1) (by omega) hLt f1 ?_
    refine am_aload_n (i := 0) dL_law_290 rfl rfl ?_
    refine am_iload_n (i := 3) dL_law_291 rfl rfl ?_
    refine am_iconst (v := 2) dL_law_292 (by decide) ?_
    refine am_iadd dL_law_293 ?_
    refine am_sld dL_law_294 hL (nI_add (6 * k) 2) (by omega) hLt f2 ?_
    refine am_aload_n (i := 0) dL_law_295 rfl rfl ?_
    refine am_iload_n (i := 3) dL_law_296 rfl rfl ?_
    refine am_iconst (v := 3) dL_law_297 (by decide) ?_
    refine am_iadd dL_law_298 ?_
    refine am_sld dL_law_299 hL (nI_add (6 * k) 3) (by omega) hLt f3 ?_
    refine am_aload_n (i := 0) dL_law_300 rfl rfl ?_
    refine am_iload_n (i := 3) dL_law_301 rfl rfl ?_
    refine am_iconst (v := 4) dL_law_302 (by decide) ?_
    refine am_iadd dL_law_303 ?_
    refine am_sld dL_law_304 hL (nI_add (6 * k) 4) (by omega) hLt f4 ?_
    refine am_aload_n (i := 0) dL_law_305 rfl rfl ?_
    refine am_iload_n (i := 3) dL_law_306 rfl rfl ?_
    refine am_iconst (v := 5) dL_law_307 (by decide) ?_
    refine am_iadd dL_law_308 ?_
    refine am_sld dL_law_309 hL (nI_add (6 * k) 5) (by omega) hLt f5 ?_
    refine am_callV (ac' := 0) (as' := 0) (xs := [_, _, _, _, _]) dL_law_310 lkL_30 (by first | rfl | exact sk8 (by omega) | exact sk9 (by omega) | exact sk10 (by omega) | exact sk11 (by omega)) rfl rfl rfl rfl (Nat.le_of_ble_eq_true rfl) rfl rfl (cM_part hn hsh (hmk n (Nat.le_refl n)) (fun cr' => ?_) (fun a' ha' ea' c1' cs' => ?_) (fun a' ha' ea' c1' cs' cf' => ?_) (fun a' ha' ea' c1' cs' cn' A1' T' S' W eA' eT' eS' eW => ?_))
    · exact absurd c1 cr'
    · have qa : a' = a := nI_inj (by omega) (by omega) (ea'.symm.trans ea)
      subst qa
      exact absurd cs cs'
    · refine am_icmp_eq_T (tgt := 569) dL_law_313 (by decide) rfl ?_
      exact K _ hW
    · exfalso
      omega
  · refine am_aload_n (i := 2) dL_law_284 rfl rfl ?_
    refine am_aload_n (i := 0) dL_law_285 rfl rfl ?_
    refine am_iload_n (i := 3) dL_law_286 rfl rfl ?_
    refine am_iconst (v := 1) dL_law_287 (by decide) ?_
    refine am_iadd dL_law_288 ?_
    refine am_sld dL_law_289 hL (nI_add (6 * k) 1) (by omega) hLt f1 ?_
    refine am_aload_n (i := 0) dL_law_290 rfl rfl ?_
    refine am_iload_n (i := 3) dL_law_291 rfl rfl ?_
    refine am_iconst (v := 2) dL_law_292 (by decide) ?_
    refine am_iadd dL_law_293 ?_
    refine am_sld dL_law_294 hL (nI_add (6 * k) 2) (by omega) hLt f2 ?_
    refine am_aload_n (i := 0) dL_law_295 rfl rfl ?_
    refine am_iload_n (i := 3) dL_law_296 rfl rfl ?_
    refine am_iconst (v := 3) dL_law_297 (by decide) ?_
    refine am_iadd dL_law_298 ?_
    refine am_sld dL_law_299 hL (nI_add (6 * k) 3) (by omega) hLt f3 ?_
    refine am_aload_n (i := 0) dL_law_300 rfl rfl ?_
    refine am_iload_n (i := 3) dL_law_301 rfl rfl ?_
    refine am_iconst (v := 4) dL_law_302 (by decide) ?_
    refine am_iadd dL_law_303 ?_
    refine am_sld dL_law_304 hL (nI_add (6 * k) 4) (by omega) hLt f4 ?_
    refine am_aload_n (i := 0) dL_law_305 rfl rfl ?_
    refine am_iload_n (i := 3) dL_law_306 rfl rfl ?_
    refine am_iconst (v := 5) dL_law_307 (by decide) ?_
    refine am_iadd dL_law_308 ?_
    refine am_sld dL_law_309 hL (nI_add (6 * k) 5) (by omega) hLt f5 ?_
    refine am_callV (ac' := 0) (as' := 0) (xs := [_, _, _, _, _]) dL_law_310 lkL_30 (by first | rfl | exact sk8 (by omega) | exact sk9 (by omega) | exact sk10 (by omega) | exact sk11 (by omega)) rfl rfl rfl rfl (Nat.le_of_ble_eq_true rfl) rfl rfl (cM_part hn hsh (hmk n (Nat.le_refl n)) (fun cr' => ?_) (fun a' ha' ea' c1' cs' => ?_) (fun a' ha' ea' c1' cs' cf' => ?_) (fun a' ha' ea' c1' cs' cn' A1' T' S' W eA' eT' eS' eW => ?_))
    · exact absurd c1 cr'
    · have qa : a' = a := nI_inj (by omega) (by omega) (ea'.symm.trans ea)
      subst qa
      exact absurd cs cs'
    · exfalso
      omega
    · have qa : a' = a := nI_inj (by omega) (by omega) (ea'.symm.trans ea)
      subst qa
      obtain rfl : A1' = A1 := eA'.trans eA.symm
      obtain rfl : T' = T := eT'.trans eT.symm
      obtain rfl : S' = S := eS'.trans eS.symm
      refine am_icmp_eq_T (tgt := 569) dL_law_313 (by decide) rfl ?_
      have hA1 : ∀ v, v < n + 1 → q_ok A1' v := by
        rw [eA]
        exact q_new_all cn hA (q_pa_ok hA cn ha ea c1 cs)
      exact K _ ⟨n + 1, _, _, _, mk, L, cl, pr, us, 0, 0, pa, ce, W, q_I_undo (by omega) hA1 (fun v hv => hmk v (by omega)) hpa eT eS eL eW, rfl⟩
set_option maxRecDepth 100000 in
set_option maxHeartbeats 4000000 in
theorem lL_4 {g : am_G} {Q : Option am_V → am_H → Prop} {L0 k n : Nat} {A P : Nat → Nat → Int32} {st mk lv : Nat → Int32} {cl pr : Nat → Nat → Int32} {us : Nat → Int32} {si wk : Int32} {pa ce wd : Nat → Int32} (hS : lw_S g L0) (hk : 6 * k + 6 ≤ L0) (hI : q_I n A P st mk lv cl pr si wk pa ce wd) (K : ∀ h, lw_H h → am_T g mL_law 5 0 0 569 [some (am_O 100 0), some (am_O 0 0), some (am_O 20 0), some (am_I (nI (6 * k)))] [] h Q) : am_T g mL_law 5 0 0 318 [some (am_O 100 0), some (am_O 0 0), some (am_O 20 0), some (am_I (nI (6 * k)))] [] (hm (xc A P st mk lv cl pr us (nI n) si wk) (ym A P st mk pa ce wd us (nI n) si)) Q := by
  obtain ⟨hL, hLt, hsc⟩ := hS
  have hW : lw_H (hm (xc A P st mk lv cl pr us (nI n) si wk) (ym A P st mk pa ce wd us (nI n) si)) := ⟨n, A, P, st, mk, lv, cl, pr, us, si, wk, pa, ce, wd, hI, rfl⟩
  have hI0 := hI
  obtain ⟨hn, hA, hsh, hJ, hmk, hlv, hs0, hpa, hwd, hrel⟩ := hI
  have hA2 : ∀ m, m < n → q_arg (A m 3) m ∧ q_arg (A m 4) m := fun m hm => ⟨(hA m hm).1.1, (hA m hm).1.2.1⟩
  have hP := hJ.1
  have hP2 : ∀ m, m < n → q_arg (P m 3) m ∧ q_arg (P m 4) m := fun m hm => ⟨(hP m hm).1.1, (hP m hm).1.2.1⟩
  have hst := hI0.sts
  obtain ⟨y1, f1⟩ := hsc (6 * k + 1) (by omega)
  obtain ⟨y2, f2⟩ := hsc (6 * k + 2) (by omega)
  refine am_aload_n (i := 1) dL_law_318 rfl rfl ?_
  refine am_aload_n (i := 0) dL_law_319 rfl rfl ?_
  refine am_iload_n (i := 3) dL_law_320 rfl rfl ?_
  refine am_iconst (v := 1) dL_law_321 (by decide) ?_
  refine am_iadd dL_law_322 ?_
  refine am_sld dL_law_323 hL (nI_add (6 * k) 1) (by omega) hLt f1 ?_
  refine am_aload_n (i := 0) dL_law_324 rfl rfl ?_
  refine am_iload_n (i := 3) dL_law_325 rfl rfl ?_
  refine am_iconst (v := 2) dL_law_326 (by decide) ?_
  refine am_iadd dL_law_327 ?_
  refine am_sld dL_law_328 hL (nI_add (6 * k) 2) (by omega) hLt f2 ?_
  refine am_if_eq (tgt := 336) dL_law_329 (by decide) (fun c329 => ?_) (fun c329 => ?_)
  · refine am_iconst (v := 0) dL_law_336 (by decide) ?_
    refine am_callV (ac' := 0) (as' := 0) (xs := [_, _]) dL_law_337 lkL_31 (by first | rfl | exact sk8 (by omega) | exact sk9 (by omega) | exact sk10 (by omega) | exact sk11 (by omega)) rfl rfl rfl rfl (Nat.le_of_ble_eq_true rfl) rfl rfl (cC_mark (by first | exact Or.inl rfl | exact Or.inr rfl) hn hA2 (fun cr => ?_) (fun v T S L hv ev eT eS eL => ?_))
    · refine am_aload_n (i := 2) dL_law_340 rfl rfl ?_
      refine am_aload_n (i := 0) dL_law_341 rfl rfl ?_
      refine am_iload_n (i := 3) dL_law_342 rfl rfl ?_
      refine am_iconst (v := 1) dL_law_343 (by decide) ?_
      refine am_iadd dL_law_344 ?_
      refine am_sld dL_law_345 hL (nI_add (6 * k) 1) (by omega) hLt f1 ?_
      refine am_aload_n (i := 0) dL_law_346 rfl rfl ?_
      refine am_iload_n (i := 3) dL_law_347 rfl rfl ?_
      refine am_iconst (v := 2) dL_law_348 (by decide) ?_
      refine am_iadd dL_law_349 ?_
      refine am_sld dL_law_350 hL (nI_add (6 * k) 2) (by omega) hLt f2 ?_
      refine am_if_eq_T (tgt := 358) dL_law_351 (by decide) c329 ?_
      refine am_iconst (v := 0) dL_law_358 (by decide) ?_
      refine am_callV (ac' := 0) (as' := 0) (xs := [_, _]) dL_law_359 lkL_35 (by first | rfl | exact sk8 (by omega) | exact sk9 (by omega) | exact sk10 (by omega) | exact sk11 (by omega)) rfl rfl rfl rfl (Nat.le_of_ble_eq_true rfl) rfl rfl (cM_mark (by first | exact Or.inl rfl | exact Or.inr rfl) hn hsh (fun cr' => ?_) (fun v' T' S' W hv' ev' eT' eS' eW => ?_))
      · refine am_icmp_eq_T (tgt := 569) dL_law_362 (by decide) rfl ?_
        exact K _ hW
      · exact absurd (by rw [ev']; exact q_val_of hv' hn) cr
    · refine am_aload_n (i := 2) dL_law_340 rfl rfl ?_
      refine am_aload_n (i := 0) dL_law_341 rfl rfl ?_
      refine am_iload_n (i := 3) dL_law_342 rfl rfl ?_
      refine am_iconst (v := 1) dL_law_343 (by decide) ?_
      refine am_iadd dL_law_344 ?_
      refine am_sld dL_law_345 hL (nI_add (6 * k) 1) (by omega) hLt f1 ?_
      refine am_aload_n (i := 0) dL_law_346 rfl rfl ?_
      refine am_iload_n (i := 3) dL_law_347 rfl rfl ?_
      refine am_iconst (v := 2) dL_law_348 (by decide) ?_
      refine am_iadd dL_law_349 ?_
      refine am_sld dL_law_350 hL (nI_add (6 * k) 2) (by omega) hLt f2 ?_
      refine am_if_eq_T (tgt := 358) dL_law_351 (by decide) c329 ?_
      refine am_iconst (v := 0) dL_law_358 (by decide) ?_
      refine am_callV (ac' := 0) (as' := 0) (xs := [_, _]) dL_law_359 lkL_35 (by first | rfl | exact sk8 (by omega) | exact sk9 (by omega) | exact sk10 (by omega) | exact sk11 (by omega)) rfl rfl rfl rfl (Nat.le_of_ble_eq_true rfl) rfl rfl (cM_mark (by first | exact Or.inl rfl | exact Or.inr rfl) hn hsh (fun cr' => ?_) (fun v' T' S' W hv' ev' eT' eS' eW => ?_))
      · exact absurd (by rw [ev]; exact q_val_of hv hn) cr'
      · have qv : v' = v := nI_inj (by omega) (by omega) (ev'.symm.trans ev)
        subst qv
        obtain rfl : T' = T := eT'.trans eT.symm
        obtain rfl : S' = S := eS'.trans eS.symm
        refine am_icmp_eq_T (tgt := 569) dL_law_362 (by decide) rfl ?_
        exact K _ ⟨n, A, _, _, _, L, cl, pr, us, 0, 0, pa, ce, W, q_I_undo hn hA (fun u hu => (upd_ne (by omega)).trans (hmk u hu)) hpa eT eS eL eW, rfl⟩
  · refine am_iconst (v := 1) dL_law_332 (by decide) ?_
    refine am_goto (tgt := 337) dL_law_333 (by decide) ?_
    refine am_callV (ac' := 0) (as' := 0) (xs := [_, _]) dL_law_337 lkL_31 (by first | rfl | exact sk8 (by omega) | exact sk9 (by omega) | exact sk10 (by omega) | exact sk11 (by omega)) rfl rfl rfl rfl (Nat.le_of_ble_eq_true rfl) rfl rfl (cC_mark (by first | exact Or.inl rfl | exact Or.inr rfl) hn hA2 (fun cr => ?_) (fun v T S L hv ev eT eS eL => ?_))
    · refine am_aload_n (i := 2) dL_law_340 rfl rfl ?_
      refine am_aload_n (i := 0) dL_law_341 rfl rfl ?_
      refine am_iload_n (i := 3) dL_law_342 rfl rfl ?_
      refine am_iconst (v := 1) dL_law_343 (by decide) ?_
      refine am_iadd dL_law_344 ?_
      refine am_sld dL_law_345 hL (nI_add (6 * k) 1) (by omega) hLt f1 ?_
      refine am_aload_n (i := 0) dL_law_346 rfl rfl ?_
      refine am_iload_n (i := 3) dL_law_347 rfl rfl ?_
      refine am_iconst (v := 2) dL_law_348 (by decide) ?_
      refine am_iadd dL_law_349 ?_
      refine am_sld dL_law_350 hL (nI_add (6 * k) 2) (by omega) hLt f2 ?_
      refine am_if_eq_F (tgt := 358) dL_law_351 (by decide) c329 ?_
      refine am_iconst (v := 1) dL_law_354 (by decide) ?_
      refine am_goto (tgt := 359) dL_law_355 (by decide) ?_
      refine am_callV (ac' := 0) (as' := 0) (xs := [_, _]) dL_law_359 lkL_35 (by first | rfl | exact sk8 (by omega) | exact sk9 (by omega) | exact sk10 (by omega) | exact sk11 (by omega)) rfl rfl rfl rfl (Nat.le_of_ble_eq_true rfl) rfl rfl (cM_mark (by first | exact Or.inl rfl | exact Or.inr rfl) hn hsh (fun cr' => ?_) (fun v' T' S' W hv' ev' eT' eS' eW => ?_))
      · refine am_icmp_eq_T (tgt := 569) dL_law_362 (by decide) rfl ?_
        exact K _ hW
      · exact absurd (by rw [ev']; exact q_val_of hv' hn) cr
    · refine am_aload_n (i := 2) dL_law_340 rfl rfl ?_
      refine am_aload_n (i := 0) dL_law_341 rfl rfl ?_
      refine am_iload_n (i := 3) dL_law_342 rfl rfl ?_
      refine am_iconst (v := 1) dL_law_343 (by decide) ?_
      refine am_iadd dL_law_344 ?_
      refine am_sld dL_law_345 hL (nI_add (6 * k) 1) (by omega) hLt f1 ?_
      refine am_aload_n (i := 0) dL_law_346 rfl rfl ?_
      refine am_iload_n (i := 3) dL_law_347 rfl rfl ?_
      refine am_iconst (v := 2) dL_law_348 (by decide) ?_
      refine am_iadd dL_law_349 ?_
      refine am_sld dL_law_350 hL (nI_add (6 * k) 2) (by omega) hLt f2 ?_
      refine am_if_eq_F (tgt := 358) dL_law_351 (by decide) c329 ?_
      refine am_iconst (v := 1) dL_law_354 (by decide) ?_
      refine am_goto (tgt := 359) dL_law_355 (by decide) ?_
      refine am_callV (ac' := 0) (as' := 0) (xs := [_, _]) dL_law_359 lkL_35 (by first | rfl | exact sk8 (by omega) | exact sk9 (by omega) | exact sk10 (by omega) | exact sk11 (by omega)) rfl rfl rfl rfl (Nat.le_of_ble_eq_true rfl) rfl rfl (cM_mark (by first | exact Or.inl rfl | exact Or.inr rfl) hn hsh (fun cr' => ?_) (fun v' T' S' W hv' ev' eT' eS' eW => ?_))
      · exact absurd (by rw [ev]; exact q_val_of hv hn) cr'
      · have qv : v' = v := nI_inj (by omega) (by omega) (ev'.symm.trans ev)
        subst qv
        obtain rfl : T' = T := eT'.trans eT.symm
        obtain rfl : S' = S := eS'.trans eS.symm
        refine am_icmp_eq_T (tgt := 569) dL_law_362 (by decide) rfl ?_
        exact K _ ⟨n, A, _, _, _, L, cl, pr, us, 0, 0, pa, ce, W, q_I_undo hn hA (fun u hu => (upd_ne (by omega)).trans (hmk u hu)) hpa eT eS eL eW, rfl⟩
theorem q_set_ok {p i j : Int32} {p0 i0 j0 : Nat} (hp : p0 < 4) (hi : i0 < 4) (hj : j0 < 4) (ep : p = nI p0) (ei : i = nI i0) (ej : j = nI j0) : ¬ p < 0 ∧ ¬ 4 ≤ p ∧ q_plOk i j := by
  have h4 : ∀ a : Nat, a < 4 → ¬ (4 : Int32) ≤ nI a := fun a ha q => absurd ((nI_le' (a := 4) (by omega) (by omega)).mp q) (by omega)
  subst ep
  subst ei
  subst ej
  exact ⟨nI_pos (by omega), h4 _ hp, nI_pos (by omega), h4 _ hi, nI_pos (by omega), h4 _ hj⟩
set_option maxRecDepth 100000 in
set_option maxHeartbeats 4000000 in
theorem lL_5 {g : am_G} {Q : Option am_V → am_H → Prop} {L0 k n : Nat} {A P : Nat → Nat → Int32} {st mk lv : Nat → Int32} {cl pr : Nat → Nat → Int32} {us : Nat → Int32} {si wk : Int32} {pa ce wd : Nat → Int32} (hS : lw_S g L0) (hk : 6 * k + 6 ≤ L0) (hI : q_I n A P st mk lv cl pr si wk pa ce wd) (K : ∀ h, lw_H h → am_T g mL_law 5 0 0 569 [some (am_O 100 0), some (am_O 0 0), some (am_O 20 0), some (am_I (nI (6 * k)))] [] h Q) : am_T g mL_law 5 0 0 367 [some (am_O 100 0), some (am_O 0 0), some (am_O 20 0), some (am_I (nI (6 * k)))] [] (hm (xc A P st mk lv cl pr us (nI n) si wk) (ym A P st mk pa ce wd us (nI n) si)) Q := by
  obtain ⟨hL, hLt, hsc⟩ := hS
  have hW : lw_H (hm (xc A P st mk lv cl pr us (nI n) si wk) (ym A P st mk pa ce wd us (nI n) si)) := ⟨n, A, P, st, mk, lv, cl, pr, us, si, wk, pa, ce, wd, hI, rfl⟩
  have hI0 := hI
  obtain ⟨hn, hA, hsh, hJ, hmk, hlv, hs0, hpa, hwd, hrel⟩ := hI
  have hA2 : ∀ m, m < n → q_arg (A m 3) m ∧ q_arg (A m 4) m := fun m hm => ⟨(hA m hm).1.1, (hA m hm).1.2.1⟩
  have hP := hJ.1
  have hP2 : ∀ m, m < n → q_arg (P m 3) m ∧ q_arg (P m 4) m := fun m hm => ⟨(hP m hm).1.1, (hP m hm).1.2.1⟩
  have hst := hI0.sts
  obtain ⟨y1, f1⟩ := hsc (6 * k + 1) (by omega)
  obtain ⟨y2, f2⟩ := hsc (6 * k + 2) (by omega)
  obtain ⟨y3, f3⟩ := hsc (6 * k + 3) (by omega)
  obtain ⟨y4, f4⟩ := hsc (6 * k + 4) (by omega)
  refine am_aload_n (i := 1) dL_law_367 rfl rfl ?_
  refine am_aload_n (i := 0) dL_law_368 rfl rfl ?_
  refine am_iload_n (i := 3) dL_law_369 rfl rfl ?_
  refine am_iconst (v := 1) dL_law_370 (by decide) ?_
  refine am_iadd dL_law_371 ?_
  refine am_sld dL_law_372 hL (nI_add (6 * k) 1) (by omega) hLt f1 ?_
  refine am_aload_n (i := 0) dL_law_373 rfl rfl ?_
  refine am_iload_n (i := 3) dL_law_374 rfl rfl ?_
  refine am_iconst (v := 2) dL_law_375 (by decide) ?_
  refine am_iadd dL_law_376 ?_
  refine am_sld dL_law_377 hL (nI_add (6 * k) 2) (by omega) hLt f2 ?_
  refine am_aload_n (i := 0) dL_law_378 rfl rfl ?_
  refine am_iload_n (i := 3) dL_law_379 rfl rfl ?_
  refine am_iconst (v := 3) dL_law_380 (by decide) ?_
  refine am_iadd dL_law_381 ?_
  refine am_sld dL_law_382 hL (nI_add (6 * k) 3) (by omega) hLt f3 ?_
  refine am_aload_n (i := 0) dL_law_383 rfl rfl ?_
  refine am_iload_n (i := 3) dL_law_384 rfl rfl ?_
  refine am_iconst (v := 4) dL_law_385 (by decide) ?_
  refine am_iadd dL_law_386 ?_
  refine am_sld dL_law_387 hL (nI_add (6 * k) 4) (by omega) hLt f4 ?_
  refine am_callV (ac' := 0) (as' := 0) (xs := [_, _, _, _]) dL_law_388 lkL_36 (by first | rfl | exact sk8 (by omega) | exact sk9 (by omega) | exact sk10 (by omega) | exact sk11 (by omega)) rfl rfl rfl rfl (Nat.le_of_ble_eq_true rfl) rfl rfl (cC_set (fun cr => ?_) (fun p0 i0 j0 hp hi hj ep ei ej => ?_))
  · refine am_aload_n (i := 2) dL_law_391 rfl rfl ?_
    refine am_aload_n (i := 0) dL_law_392 rfl rfl ?_
    refine am_iload_n (i := 3) dL_law_393 rfl rfl ?_
    refine am_iconst (v := 1) dL_law_394 (by decide) ?_
    refine am_iadd dL_law_395 ?_
    refine am_sld dL_law_396 hL (nI_add (6 * k) 1) (by omega) hLt f1 ?_
    refine am_aload_n (i := 0) dL_law_397 rfl rfl ?_
    refine am_iload_n (i := 3) dL_law_398 rfl rfl ?_
    refine am_iconst (v := 2) dL_law_399 (by decide) ?_
    refine am_iadd dL_law_400 ?_
    refine am_sld dL_law_401 hL (nI_add (6 * k) 2) (by omega) hLt f2 ?_
    refine am_aload_n (i := 0) dL_law_402 rfl rfl ?_
    refine am_iload_n (i := 3) dL_law_403 rfl rfl ?_
    refine am_iconst (v := 3) dL_law_404 (by decide) ?_
    refine am_iadd dL_law_405 ?_
    refine am_sld dL_law_406 hL (nI_add (6 * k) 3) (by omega) hLt f3 ?_
    refine am_aload_n (i := 0) dL_law_407 rfl rfl ?_
    refine am_iload_n (i := 3) dL_law_408 rfl rfl ?_
    refine am_iconst (v := 4) dL_law_409 (by decide) ?_
    refine am_iadd dL_law_410 ?_
    refine am_sld dL_law_411 hL (nI_add (6 * k) 4) (by omega) hLt f4 ?_
    refine am_callV (ac' := 0) (as' := 0) (xs := [_, _, _, _]) dL_law_412 lkL_39 (by first | rfl | exact sk8 (by omega) | exact sk9 (by omega) | exact sk10 (by omega) | exact sk11 (by omega)) rfl rfl rfl rfl (Nat.le_of_ble_eq_true rfl) rfl rfl (cM_set (fun cr' => ?_) (fun p0' i0' j0' hp' hi' hj' ep' ei' ej' => ?_))
    · refine am_icmp_eq_T (tgt := 569) dL_law_415 (by decide) rfl ?_
      exact K _ hW
    · exact absurd (q_set_ok hp' hi' hj' ep' ei' ej') cr
  · refine am_aload_n (i := 2) dL_law_391 rfl rfl ?_
    refine am_aload_n (i := 0) dL_law_392 rfl rfl ?_
    refine am_iload_n (i := 3) dL_law_393 rfl rfl ?_
    refine am_iconst (v := 1) dL_law_394 (by decide) ?_
    refine am_iadd dL_law_395 ?_
    refine am_sld dL_law_396 hL (nI_add (6 * k) 1) (by omega) hLt f1 ?_
    refine am_aload_n (i := 0) dL_law_397 rfl rfl ?_
    refine am_iload_n (i := 3) dL_law_398 rfl rfl ?_
    refine am_iconst (v := 2) dL_law_399 (by decide) ?_
    refine am_iadd dL_law_400 ?_
    refine am_sld dL_law_401 hL (nI_add (6 * k) 2) (by omega) hLt f2 ?_
    refine am_aload_n (i := 0) dL_law_402 rfl rfl ?_
    refine am_iload_n (i := 3) dL_law_403 rfl rfl ?_
    refine am_iconst (v := 3) dL_law_404 (by decide) ?_
    refine am_iadd dL_law_405 ?_
    refine am_sld dL_law_406 hL (nI_add (6 * k) 3) (by omega) hLt f3 ?_
    refine am_aload_n (i := 0) dL_law_407 rfl rfl ?_
    refine am_iload_n (i := 3) dL_law_408 rfl rfl ?_
    refine am_iconst (v := 4) dL_law_409 (by decide) ?_
    refine am_iadd dL_law_410 ?_
    refine am_sld dL_law_411 hL (nI_add (6 * k) 4) (by omega) hLt f4 ?_
    refine am_callV (ac' := 0) (as' := 0) (xs := [_, _, _, _]) dL_law_412 lkL_39 (by first | rfl | exact sk8 (by omega) | exact sk9 (by omega) | exact sk10 (by omega) | exact sk11 (by omega)) rfl rfl rfl rfl (Nat.le_of_ble_eq_true rfl) rfl rfl (cM_set (fun cr' => ?_) (fun p0' i0' j0' hp' hi' hj' ep' ei' ej' => ?_))
    · exact absurd (q_set_ok hp hi hj ep ei ej) cr'
    · have q1 : p0' = p0 := nI_inj (by omega) (by omega) (ep'.symm.trans ep)
      have q2 : i0' = i0 := nI_inj (by omega) (by omega) (ei'.symm.trans ei)
      have q3 : j0' = j0 := nI_inj (by omega) (by omega) (ej'.symm.trans ej)
      subst q1
      subst q2
      subst q3
      refine am_icmp_eq_T (tgt := 569) dL_law_415 (by decide) rfl ?_
      exact K _ ⟨n, A, P, st, mk, lv, cl, _, us, si, wk, _, ce, wd, hI0.set hp hi hj, rfl⟩
set_option maxRecDepth 100000 in
set_option maxHeartbeats 4000000 in
theorem lL_6 {g : am_G} {Q : Option am_V → am_H → Prop} {L0 k n : Nat} {A P : Nat → Nat → Int32} {st mk lv : Nat → Int32} {cl pr : Nat → Nat → Int32} {us : Nat → Int32} {si wk : Int32} {pa ce wd : Nat → Int32} (hS : lw_S g L0) (hk : 6 * k + 6 ≤ L0) (hI : q_I n A P st mk lv cl pr si wk pa ce wd) (K : ∀ h, lw_H h → am_T g mL_law 5 0 0 569 [some (am_O 100 0), some (am_O 0 0), some (am_O 20 0), some (am_I (nI (6 * k)))] [] h Q) : am_T g mL_law 5 0 0 420 [some (am_O 100 0), some (am_O 0 0), some (am_O 20 0), some (am_I (nI (6 * k)))] [] (hm (xc A P st mk lv cl pr us (nI n) si wk) (ym A P st mk pa ce wd us (nI n) si)) Q := by
  obtain ⟨hL, hLt, hsc⟩ := hS
  have hW : lw_H (hm (xc A P st mk lv cl pr us (nI n) si wk) (ym A P st mk pa ce wd us (nI n) si)) := ⟨n, A, P, st, mk, lv, cl, pr, us, si, wk, pa, ce, wd, hI, rfl⟩
  have hI0 := hI
  obtain ⟨hn, hA, hsh, hJ, hmk, hlv, hs0, hpa, hwd, hrel⟩ := hI
  have hA2 : ∀ m, m < n → q_arg (A m 3) m ∧ q_arg (A m 4) m := fun m hm => ⟨(hA m hm).1.1, (hA m hm).1.2.1⟩
  have hP := hJ.1
  have hP2 : ∀ m, m < n → q_arg (P m 3) m ∧ q_arg (P m 4) m := fun m hm => ⟨(hP m hm).1.1, (hP m hm).1.2.1⟩
  have hst := hI0.sts
  refine am_aload_n (i := 1) dL_law_420 rfl rfl ?_
  refine am_callV (ac' := 0) (as' := 0) (xs := []) dL_law_421 lkL_40 (by first | rfl | exact sk8 (by omega) | exact sk9 (by omega) | exact sk10 (by omega) | exact sk11 (by omega)) rfl rfl rfl rfl (Nat.le_of_ble_eq_true rfl) rfl rfl (cC_simplify hn (fun q => hI0.J0 q) (fun cs => ?_) (fun c0 T S U e L er eJ eL => ?_))
  · refine am_aload_n (i := 2) dL_law_424 rfl rfl ?_
    refine am_callV (ac' := 0) (as' := 0) (xs := []) dL_law_425 lkL_44 (by first | rfl | exact sk8 (by omega) | exact sk9 (by omega) | exact sk10 (by omega) | exact sk11 (by omega)) rfl rfl rfl rfl (Nat.le_of_ble_eq_true rfl) rfl rfl (cM_simplify hn (fun q => hI0.J0 q) (fun q => (hs0 q).1) (fun q => (hs0 q).2) (fun cs' => ?_) (fun c0' T' S' U' e' er' => ?_))
    · refine am_icmp_eq_T (tgt := 569) dL_law_428 (by decide) rfl ?_
      exact K _ hW
    · exact absurd c0' cs
  · refine am_aload_n (i := 2) dL_law_424 rfl rfl ?_
    refine am_callV (ac' := 0) (as' := 0) (xs := []) dL_law_425 lkL_44 (by first | rfl | exact sk8 (by omega) | exact sk9 (by omega) | exact sk10 (by omega) | exact sk11 (by omega)) rfl rfl rfl rfl (Nat.le_of_ble_eq_true rfl) rfl rfl (cM_simplify hn (fun q => hI0.J0 q) (fun q => (hs0 q).1) (fun q => (hs0 q).2) (fun cs' => ?_) (fun c0' T' S' U' e' er' => ?_))
    · exact absurd c0 cs'
    · have q := er.symm.trans er'
      cases q
      refine am_icmp_eq_T (tgt := 569) dL_law_428 (by decide) rfl ?_
      exact K _ ⟨n, A, _, _, mk, L, cl, pr, _, 1, 0, pa, ce, _, hI0.simp er eJ eL rfl, rfl⟩
set_option maxRecDepth 100000 in
set_option maxHeartbeats 4000000 in
theorem lL_7 {g : am_G} {Q : Option am_V → am_H → Prop} {L0 k n : Nat} {A P : Nat → Nat → Int32} {st mk lv : Nat → Int32} {cl pr : Nat → Nat → Int32} {us : Nat → Int32} {si wk : Int32} {pa ce wd : Nat → Int32} (hS : lw_S g L0) (hk : 6 * k + 6 ≤ L0) (hI : q_I n A P st mk lv cl pr si wk pa ce wd) (K : ∀ h, lw_H h → am_T g mL_law 5 0 0 569 [some (am_O 100 0), some (am_O 0 0), some (am_O 20 0), some (am_I (nI (6 * k)))] [] h Q) : am_T g mL_law 5 0 0 433 [some (am_O 100 0), some (am_O 0 0), some (am_O 20 0), some (am_I (nI (6 * k)))] [] (hm (xc A P st mk lv cl pr us (nI n) si wk) (ym A P st mk pa ce wd us (nI n) si)) Q := by
  obtain ⟨hL, hLt, hsc⟩ := hS
  have hW : lw_H (hm (xc A P st mk lv cl pr us (nI n) si wk) (ym A P st mk pa ce wd us (nI n) si)) := ⟨n, A, P, st, mk, lv, cl, pr, us, si, wk, pa, ce, wd, hI, rfl⟩
  have hI0 := hI
  obtain ⟨hn, hA, hsh, hJ, hmk, hlv, hs0, hpa, hwd, hrel⟩ := hI
  have hA2 : ∀ m, m < n → q_arg (A m 3) m ∧ q_arg (A m 4) m := fun m hm => ⟨(hA m hm).1.1, (hA m hm).1.2.1⟩
  have hP := hJ.1
  have hP2 : ∀ m, m < n → q_arg (P m 3) m ∧ q_arg (P m 4) m := fun m hm => ⟨(hP m hm).1.1, (hP m hm).1.2.1⟩
  have hst := hI0.sts
  refine am_aload_n (i := 1) dL_law_433 rfl rfl ?_
  refine am_callV (ac' := 0) (as' := 0) (xs := []) dL_law_434 lkL_45 (by first | rfl | exact sk8 (by omega) | exact sk9 (by omega) | exact sk10 (by omega) | exact sk11 (by omega)) rfl rfl rfl rfl (Nat.le_of_ble_eq_true rfl) rfl rfl (cC_work hn hP ?_)
  refine am_aload_n (i := 2) dL_law_437 rfl rfl ?_
  refine am_callV (ac' := 0) (as' := 0) (xs := []) dL_law_438 lkL_48 (by first | rfl | exact sk8 (by omega) | exact sk9 (by omega) | exact sk10 (by omega) | exact sk11 (by omega)) rfl rfl rfl rfl (Nat.le_of_ble_eq_true rfl) rfl rfl (cM_work (lv := lv) (cl := cl) (pr := pr) hn hP hst hpa hlv (fun ce' hce => ?_))
  refine am_icmp_eq_T (tgt := 569) dL_law_441 (by decide) rfl ?_
  exact K _ ⟨n, A, P, st, mk, lv, _, pr, us, si, 1, pa, ce', _, hI0.work hce, rfl⟩
theorem q_cell_ok {x y : Int32} {j : Nat} (h : j < ix y) (hy : q_dim y) (e : x = nI j) : ¬ x < 0 ∧ x < y := by
  obtain ⟨r, h1, h2, er⟩ := hy
  subst e
  subst er
  rw [ix_nI (by omega)] at h
  exact ⟨nI_pos (by omega), (nI_lt' (by omega) (by omega)).mpr h⟩
set_option maxRecDepth 100000 in
set_option maxHeartbeats 4000000 in
theorem lL_8 {g : am_G} {Q : Option am_V → am_H → Prop} {L0 k n : Nat} {A P : Nat → Nat → Int32} {st mk lv : Nat → Int32} {cl pr : Nat → Nat → Int32} {us : Nat → Int32} {si wk : Int32} {pa ce wd : Nat → Int32} (hS : lw_S g L0) (hk : 6 * k + 6 ≤ L0) (hI : q_I n A P st mk lv cl pr si wk pa ce wd) (K : ∀ h, lw_H h → am_T g mL_law 5 0 0 569 [some (am_O 100 0), some (am_O 0 0), some (am_O 20 0), some (am_I (nI (6 * k)))] [] h Q) : am_T g mL_law 5 0 0 446 [some (am_O 100 0), some (am_O 0 0), some (am_O 20 0), some (am_I (nI (6 * k)))] [] (hm (xc A P st mk lv cl pr us (nI n) si wk) (ym A P st mk pa ce wd us (nI n) si)) Q := by
  obtain ⟨hL, hLt, hsc⟩ := hS
  have hW : lw_H (hm (xc A P st mk lv cl pr us (nI n) si wk) (ym A P st mk pa ce wd us (nI n) si)) := ⟨n, A, P, st, mk, lv, cl, pr, us, si, wk, pa, ce, wd, hI, rfl⟩
  have hI0 := hI
  obtain ⟨hn, hA, hsh, hJ, hmk, hlv, hs0, hpa, hwd, hrel⟩ := hI
  have hA2 : ∀ m, m < n → q_arg (A m 3) m ∧ q_arg (A m 4) m := fun m hm => ⟨(hA m hm).1.1, (hA m hm).1.2.1⟩
  have hP := hJ.1
  have hP2 : ∀ m, m < n → q_arg (P m 3) m ∧ q_arg (P m 4) m := fun m hm => ⟨(hP m hm).1.1, (hP m hm).1.2.1⟩
  have hst := hI0.sts
  obtain ⟨y1, f1⟩ := hsc (6 * k + 1) (by omega)
  obtain ⟨y2, f2⟩ := hsc (6 * k + 2) (by omega)
  obtain ⟨y3, f3⟩ := hsc (6 * k + 3) (by omega)
  refine am_aload_n (i := 1) dL_law_446 rfl rfl ?_
  refine am_aload_n (i := 0) dL_law_447 rfl rfl ?_
  refine am_iload_n (i := 3) dL_law_448 rfl rfl ?_
  refine am_iconst (v := 1) dL_law_449 (by decide) ?_
  refine am_iadd dL_law_450 ?_
  refine am_sld dL_law_451 hL (nI_add (6 * k) 1) (by omega) hLt f1 ?_
  refine am_aload_n (i := 0) dL_law_452 rfl rfl ?_
  refine am_iload_n (i := 3) dL_law_453 rfl rfl ?_
  refine am_iconst (v := 2) dL_law_454 (by decide) ?_
  refine am_iadd dL_law_455 ?_
  refine am_sld dL_law_456 hL (nI_add (6 * k) 2) (by omega) hLt f2 ?_
  refine am_aload_n (i := 0) dL_law_457 rfl rfl ?_
  refine am_iload_n (i := 3) dL_law_458 rfl rfl ?_
  refine am_iconst (v := 3) dL_law_459 (by decide) ?_
  refine am_iadd dL_law_460 ?_
  refine am_sld dL_law_461 hL (nI_add (6 * k) 3) (by omega) hLt f3 ?_
  refine am_callV (ac' := 0) (as' := 0) (xs := [_, _, _]) dL_law_462 lkL_49 (by first | rfl | exact sk8 (by omega) | exact sk9 (by omega) | exact sk10 (by omega) | exact sk11 (by omega)) rfl rfl rfl rfl (Nat.le_of_ble_eq_true rfl) rfl rfl (cC_cell hn hP (fun cN => ?_) (fun v i0 j0 hv ev c1 c2 ei ej hi hj => ?_))
  · refine am_aload_n (i := 2) dL_law_465 rfl rfl ?_
    refine am_aload_n (i := 0) dL_law_466 rfl rfl ?_
    refine am_iload_n (i := 3) dL_law_467 rfl rfl ?_
    refine am_iconst (v := 1) dL_law_468 (by decide) ?_
    refine am_iadd dL_law_469 ?_
    refine am_sld dL_law_470 hL (nI_add (6 * k) 1) (by omega) hLt f1 ?_
    refine am_aload_n (i := 0) dL_law_471 rfl rfl ?_
    refine am_iload_n (i := 3) dL_law_472 rfl rfl ?_
    refine am_iconst (v := 2) dL_law_473 (by decide) ?_
    refine am_iadd dL_law_474 ?_
    refine am_sld dL_law_475 hL (nI_add (6 * k) 2) (by omega) hLt f2 ?_
    refine am_aload_n (i := 0) dL_law_476 rfl rfl ?_
    refine am_iload_n (i := 3) dL_law_477 rfl rfl ?_
    refine am_iconst (v := 3) dL_law_478 (by decide) ?_
    refine am_iadd dL_law_479 ?_
    refine am_sld dL_law_480 hL (nI_add (6 * k) 3) (by omega) hLt f3 ?_
    refine am_callV (ac' := 0) (as' := 0) (xs := [_, _, _]) dL_law_481 lkL_53 (by first | rfl | exact sk8 (by omega) | exact sk9 (by omega) | exact sk10 (by omega) | exact sk11 (by omega)) rfl rfl rfl rfl (Nat.le_of_ble_eq_true rfl) rfl rfl (cM_cell hn hP (fun cN' => ?_) (fun v' i0' j0' hv' ev' c1' ei' ej' hi' hj' => ?_))
    · refine am_lcmp dL_law_484 ?_
      refine am_if_eq_T (tgt := 569) dL_law_485 (by decide) ((lg_cmp_eq _ _).mpr rfl) ?_
      exact K _ hW
    · have qx : ix y1 = v' := by rw [ev', ix_nI (by omega)]
      have hx := hwd v' hv'
      obtain ⟨z1, z2⟩ := q_cell_ok hi' (hP v' hv').2.2.2.1 ei'
      obtain ⟨z3, z4⟩ := q_cell_ok hj' (hP v' hv').2.2.2.2 ej'
      exact absurd (by rw [qx]; exact ⟨by rw [ev']; exact q_val_of hv' hn, fun q => c1' (hx.mpr (Or.inl q)), fun q => c1' (hx.mpr (Or.inr q)), z1, Int32.not_le.mpr z2, z3, z4⟩) cN
  · refine am_aload_n (i := 2) dL_law_465 rfl rfl ?_
    refine am_aload_n (i := 0) dL_law_466 rfl rfl ?_
    refine am_iload_n (i := 3) dL_law_467 rfl rfl ?_
    refine am_iconst (v := 1) dL_law_468 (by decide) ?_
    refine am_iadd dL_law_469 ?_
    refine am_sld dL_law_470 hL (nI_add (6 * k) 1) (by omega) hLt f1 ?_
    refine am_aload_n (i := 0) dL_law_471 rfl rfl ?_
    refine am_iload_n (i := 3) dL_law_472 rfl rfl ?_
    refine am_iconst (v := 2) dL_law_473 (by decide) ?_
    refine am_iadd dL_law_474 ?_
    refine am_sld dL_law_475 hL (nI_add (6 * k) 2) (by omega) hLt f2 ?_
    refine am_aload_n (i := 0) dL_law_476 rfl rfl ?_
    refine am_iload_n (i := 3) dL_law_477 rfl rfl ?_
    refine am_iconst (v := 3) dL_law_478 (by decide) ?_
    refine am_iadd dL_law_479 ?_
    refine am_sld dL_law_480 hL (nI_add (6 * k) 3) (by omega) hLt f3 ?_
    refine am_callV (ac' := 0) (as' := 0) (xs := [_, _, _]) dL_law_481 lkL_53 (by first | rfl | exact sk8 (by omega) | exact sk9 (by omega) | exact sk10 (by omega) | exact sk11 (by omega)) rfl rfl rfl rfl (Nat.le_of_ble_eq_true rfl) rfl rfl (cM_cell hn hP (fun cN' => ?_) (fun v' i0' j0' hv' ev' c1' ei' ej' hi' hj' => ?_))
    · have qx : ix y1 = v := by rw [ev, ix_nI (by omega)]
      have hx := hwd v hv
      obtain ⟨z1, z2⟩ := q_cell_ok hi (hP v hv).2.2.2.1 ei
      obtain ⟨z3, z4⟩ := q_cell_ok hj (hP v hv).2.2.2.2 ej
      exact absurd (by rw [qx]; exact ⟨by rw [ev]; exact q_val_of hv hn, fun q => (hx.mp q).elim c1 c2, z1, Int32.not_le.mpr z2, z3, z4⟩) cN'
    · have q1 : v' = v := nI_inj (by omega) (by omega) (ev'.symm.trans ev)
      subst q1
      have t1 := (q_dim_pos (hP v' hv).2.2.2.1).2.1
      have t2 := (q_dim_pos (hP v' hv).2.2.2.2).2.1
      have q2 : i0' = i0 := nI_inj (by omega) (by omega) (ei'.symm.trans ei)
      have q3 : j0' = j0 := nI_inj (by omega) (by omega) (ej'.symm.trans ej)
      subst q2
      subst q3
      refine am_lcmp dL_law_484 ?_
      refine am_if_eq_T (tgt := 569) dL_law_485 (by decide) ((lg_cmp_eq _ _).mpr (congrArg Int32.toInt64 (hrel c1 v' hv c2 i0' j0' hi hj).symm)) ?_
      exact K _ hW
set_option maxRecDepth 100000 in
set_option maxHeartbeats 4000000 in
theorem lL_9 {g : am_G} {Q : Option am_V → am_H → Prop} {L0 k n : Nat} {A P : Nat → Nat → Int32} {st mk lv : Nat → Int32} {cl pr : Nat → Nat → Int32} {us : Nat → Int32} {si wk : Int32} {pa ce wd : Nat → Int32} (hS : lw_S g L0) (hk : 6 * k + 6 ≤ L0) (hI : q_I n A P st mk lv cl pr si wk pa ce wd) (K : ∀ h, lw_H h → am_T g mL_law 5 0 0 569 [some (am_O 100 0), some (am_O 0 0), some (am_O 20 0), some (am_I (nI (6 * k)))] [] h Q) : am_T g mL_law 5 0 0 490 [some (am_O 100 0), some (am_O 0 0), some (am_O 20 0), some (am_I (nI (6 * k)))] [] (hm (xc A P st mk lv cl pr us (nI n) si wk) (ym A P st mk pa ce wd us (nI n) si)) Q := by
  obtain ⟨hL, hLt, hsc⟩ := hS
  have hW : lw_H (hm (xc A P st mk lv cl pr us (nI n) si wk) (ym A P st mk pa ce wd us (nI n) si)) := ⟨n, A, P, st, mk, lv, cl, pr, us, si, wk, pa, ce, wd, hI, rfl⟩
  have hI0 := hI
  obtain ⟨hn, hA, hsh, hJ, hmk, hlv, hs0, hpa, hwd, hrel⟩ := hI
  have hA2 : ∀ m, m < n → q_arg (A m 3) m ∧ q_arg (A m 4) m := fun m hm => ⟨(hA m hm).1.1, (hA m hm).1.2.1⟩
  have hP := hJ.1
  have hP2 : ∀ m, m < n → q_arg (P m 3) m ∧ q_arg (P m 4) m := fun m hm => ⟨(hP m hm).1.1, (hP m hm).1.2.1⟩
  have hst := hI0.sts
  obtain ⟨y1, f1⟩ := hsc (6 * k + 1) (by omega)
  refine am_aload_n (i := 1) dL_law_490 rfl rfl ?_
  refine am_aload_n (i := 0) dL_law_491 rfl rfl ?_
  refine am_iload_n (i := 3) dL_law_492 rfl rfl ?_
  refine am_iconst (v := 1) dL_law_493 (by decide) ?_
  refine am_iadd dL_law_494 ?_
  refine am_sld dL_law_495 hL (nI_add (6 * k) 1) (by omega) hLt f1 ?_
  refine am_callV (ac' := 0) (as' := 0) (xs := [_]) dL_law_496 lkL_54 (by first | rfl | exact sk8 (by omega) | exact sk9 (by omega) | exact sk10 (by omega) | exact sk11 (by omega)) rfl rfl rfl rfl (Nat.le_of_ble_eq_true rfl) rfl rfl (cC_standIn hn (fun cr => ?_) (fun v hv ev => ?_))
  · refine am_aload_n (i := 2) dL_law_499 rfl rfl ?_
    refine am_aload_n (i := 0) dL_law_500 rfl rfl ?_
    refine am_iload_n (i := 3) dL_law_501 rfl rfl ?_
    refine am_iconst (v := 1) dL_law_502 (by decide) ?_
    refine am_iadd dL_law_503 ?_
    refine am_sld dL_law_504 hL (nI_add (6 * k) 1) (by omega) hLt f1 ?_
    refine am_callV (ac' := 0) (as' := 0) (xs := [_]) dL_law_505 lkL_58 (by first | rfl | exact sk8 (by omega) | exact sk9 (by omega) | exact sk10 (by omega) | exact sk11 (by omega)) rfl rfl rfl rfl (Nat.le_of_ble_eq_true rfl) rfl rfl (cM_standIn hn (fun cr' => ?_) (fun v' hv' ev' => ?_))
    · refine am_icmp_eq_T (tgt := 569) dL_law_508 (by decide) rfl ?_
      exact K _ hW
    · exact absurd (by rw [ev']; exact q_val_of hv' hn) cr
  · refine am_aload_n (i := 2) dL_law_499 rfl rfl ?_
    refine am_aload_n (i := 0) dL_law_500 rfl rfl ?_
    refine am_iload_n (i := 3) dL_law_501 rfl rfl ?_
    refine am_iconst (v := 1) dL_law_502 (by decide) ?_
    refine am_iadd dL_law_503 ?_
    refine am_sld dL_law_504 hL (nI_add (6 * k) 1) (by omega) hLt f1 ?_
    refine am_callV (ac' := 0) (as' := 0) (xs := [_]) dL_law_505 lkL_58 (by first | rfl | exact sk8 (by omega) | exact sk9 (by omega) | exact sk10 (by omega) | exact sk11 (by omega)) rfl rfl rfl rfl (Nat.le_of_ble_eq_true rfl) rfl rfl (cM_standIn hn (fun cr' => ?_) (fun v' hv' ev' => ?_))
    · exact absurd (by rw [ev]; exact q_val_of hv hn) cr'
    · have q1 : v' = v := nI_inj (by omega) (by omega) (ev'.symm.trans ev)
      subst q1
      refine am_icmp_eq_T (tgt := 569) dL_law_508 (by decide) rfl ?_
      exact K _ hW
set_option maxRecDepth 100000 in
set_option maxHeartbeats 4000000 in
theorem lL_10 {g : am_G} {Q : Option am_V → am_H → Prop} {L0 k n : Nat} {A P : Nat → Nat → Int32} {st mk lv : Nat → Int32} {cl pr : Nat → Nat → Int32} {us : Nat → Int32} {si wk : Int32} {pa ce wd : Nat → Int32} (hS : lw_S g L0) (hk : 6 * k + 6 ≤ L0) (hI : q_I n A P st mk lv cl pr si wk pa ce wd) (K : ∀ h, lw_H h → am_T g mL_law 5 0 0 569 [some (am_O 100 0), some (am_O 0 0), some (am_O 20 0), some (am_I (nI (6 * k)))] [] h Q) : am_T g mL_law 5 0 0 513 [some (am_O 100 0), some (am_O 0 0), some (am_O 20 0), some (am_I (nI (6 * k)))] [] (hm (xc A P st mk lv cl pr us (nI n) si wk) (ym A P st mk pa ce wd us (nI n) si)) Q := by
  obtain ⟨hL, hLt, hsc⟩ := hS
  have hW : lw_H (hm (xc A P st mk lv cl pr us (nI n) si wk) (ym A P st mk pa ce wd us (nI n) si)) := ⟨n, A, P, st, mk, lv, cl, pr, us, si, wk, pa, ce, wd, hI, rfl⟩
  have hI0 := hI
  obtain ⟨hn, hA, hsh, hJ, hmk, hlv, hs0, hpa, hwd, hrel⟩ := hI
  have hA2 : ∀ m, m < n → q_arg (A m 3) m ∧ q_arg (A m 4) m := fun m hm => ⟨(hA m hm).1.1, (hA m hm).1.2.1⟩
  have hP := hJ.1
  have hP2 : ∀ m, m < n → q_arg (P m 3) m ∧ q_arg (P m 4) m := fun m hm => ⟨(hP m hm).1.1, (hP m hm).1.2.1⟩
  have hst := hI0.sts
  obtain ⟨y1, f1⟩ := hsc (6 * k + 1) (by omega)
  obtain ⟨y2, f2⟩ := hsc (6 * k + 2) (by omega)
  refine am_aload_n (i := 1) dL_law_513 rfl rfl ?_
  refine am_aload_n (i := 0) dL_law_514 rfl rfl ?_
  refine am_iload_n (i := 3) dL_law_515 rfl rfl ?_
  refine am_iconst (v := 1) dL_law_516 (by decide) ?_
  refine am_iadd dL_law_517 ?_
  refine am_sld dL_law_518 hL (nI_add (6 * k) 1) (by omega) hLt f1 ?_
  refine am_aload_n (i := 0) dL_law_519 rfl rfl ?_
  refine am_iload_n (i := 3) dL_law_520 rfl rfl ?_
  refine am_iconst (v := 2) dL_law_521 (by decide) ?_
  refine am_iadd dL_law_522 ?_
  refine am_sld dL_law_523 hL (nI_add (6 * k) 2) (by omega) hLt f2 ?_
  refine am_callV (ac' := 0) (as' := 0) (xs := [_, _]) dL_law_524 lkL_59 (by first | rfl | exact sk8 (by omega) | exact sk9 (by omega) | exact sk10 (by omega) | exact sk11 (by omega)) rfl rfl rfl rfl (Nat.le_of_ble_eq_true rfl) rfl rfl (cC_value hn (fun cr => ?_) (fun v hv ev co => ?_) (fun v j hv ev hj ej => ?_) (fun v hv ev e7 => ?_))
  · refine am_aload_n (i := 2) dL_law_527 rfl rfl ?_
    refine am_aload_n (i := 0) dL_law_528 rfl rfl ?_
    refine am_iload_n (i := 3) dL_law_529 rfl rfl ?_
    refine am_iconst (v := 1) dL_law_530 (by decide) ?_
    refine am_iadd dL_law_531 ?_
    refine am_sld dL_law_532 hL (nI_add (6 * k) 1) (by omega) hLt f1 ?_
    refine am_aload_n (i := 0) dL_law_533 rfl rfl ?_
    refine am_iload_n (i := 3) dL_law_534 rfl rfl ?_
    refine am_iconst (v := 2) dL_law_535 (by decide) ?_
    refine am_iadd dL_law_536 ?_
    refine am_sld dL_law_537 hL (nI_add (6 * k) 2) (by omega) hLt f2 ?_
    refine am_callV (ac' := 0) (as' := 0) (xs := [_, _]) dL_law_538 lkL_63 (by first | rfl | exact sk8 (by omega) | exact sk9 (by omega) | exact sk10 (by omega) | exact sk11 (by omega)) rfl rfl rfl rfl (Nat.le_of_ble_eq_true rfl) rfl rfl (cM_value hn hst hP2 (fun cr' => ?_) (fun v' hv' ev' co' => ?_) (fun v' j' hv' ev' hj' ej' => ?_) (fun v' hv' ev' e7' => ?_))
    · refine am_icmp_eq_T (tgt := 569) dL_law_541 (by decide) rfl ?_
      exact K _ hW
    · refine am_icmp_eq_T (tgt := 569) dL_law_541 (by decide) rfl ?_
      exact K _ hW
    · exact absurd (by rw [ev']; exact q_val_of hv' hn) cr
    · exact absurd (by rw [ev']; exact q_val_of hv' hn) cr
  · refine am_aload_n (i := 2) dL_law_527 rfl rfl ?_
    refine am_aload_n (i := 0) dL_law_528 rfl rfl ?_
    refine am_iload_n (i := 3) dL_law_529 rfl rfl ?_
    refine am_iconst (v := 1) dL_law_530 (by decide) ?_
    refine am_iadd dL_law_531 ?_
    refine am_sld dL_law_532 hL (nI_add (6 * k) 1) (by omega) hLt f1 ?_
    refine am_aload_n (i := 0) dL_law_533 rfl rfl ?_
    refine am_iload_n (i := 3) dL_law_534 rfl rfl ?_
    refine am_iconst (v := 2) dL_law_535 (by decide) ?_
    refine am_iadd dL_law_536 ?_
    refine am_sld dL_law_537 hL (nI_add (6 * k) 2) (by omega) hLt f2 ?_
    refine am_callV (ac' := 0) (as' := 0) (xs := [_, _]) dL_law_538 lkL_63 (by first | rfl | exact sk8 (by omega) | exact sk9 (by omega) | exact sk10 (by omega) | exact sk11 (by omega)) rfl rfl rfl rfl (Nat.le_of_ble_eq_true rfl) rfl rfl (cM_value hn hst hP2 (fun cr' => ?_) (fun v' hv' ev' co' => ?_) (fun v' j' hv' ev' hj' ej' => ?_) (fun v' hv' ev' e7' => ?_))
    · refine am_icmp_eq_T (tgt := 569) dL_law_541 (by decide) rfl ?_
      exact K _ hW
    · refine am_icmp_eq_T (tgt := 569) dL_law_541 (by decide) rfl ?_
      exact K _ hW
    · have t := co
      have t' : y2.toInt = j' := by rw [ej']; exact nI_toInt (by omega)
      exfalso
      omega
    · have t := co
      have t' : y2.toInt = 7 := by rw [e7']; decide
      exfalso
      omega
  · refine am_aload_n (i := 2) dL_law_527 rfl rfl ?_
    refine am_aload_n (i := 0) dL_law_528 rfl rfl ?_
    refine am_iload_n (i := 3) dL_law_529 rfl rfl ?_
    refine am_iconst (v := 1) dL_law_530 (by decide) ?_
    refine am_iadd dL_law_531 ?_
    refine am_sld dL_law_532 hL (nI_add (6 * k) 1) (by omega) hLt f1 ?_
    refine am_aload_n (i := 0) dL_law_533 rfl rfl ?_
    refine am_iload_n (i := 3) dL_law_534 rfl rfl ?_
    refine am_iconst (v := 2) dL_law_535 (by decide) ?_
    refine am_iadd dL_law_536 ?_
    refine am_sld dL_law_537 hL (nI_add (6 * k) 2) (by omega) hLt f2 ?_
    refine am_callV (ac' := 0) (as' := 0) (xs := [_, _]) dL_law_538 lkL_63 (by first | rfl | exact sk8 (by omega) | exact sk9 (by omega) | exact sk10 (by omega) | exact sk11 (by omega)) rfl rfl rfl rfl (Nat.le_of_ble_eq_true rfl) rfl rfl (cM_value hn hst hP2 (fun cr' => ?_) (fun v' hv' ev' co' => ?_) (fun v' j' hv' ev' hj' ej' => ?_) (fun v' hv' ev' e7' => ?_))
    · exact absurd (by rw [ev]; exact q_val_of hv hn) cr'
    · have t : y2.toInt = j := by rw [ej]; exact nI_toInt (by omega)
      have t' := co'
      exfalso
      omega
    · have q1 : v' = v := nI_inj (by omega) (by omega) (ev'.symm.trans ev)
      subst q1
      have q2 : j' = j := nI_inj (by omega) (by omega) (ej'.symm.trans ej)
      subst q2
      refine am_icmp_eq_T (tgt := 569) dL_law_541 (by decide) rfl ?_
      exact K _ hW
    · have t : y2.toInt = j := by rw [ej]; exact nI_toInt (by omega)
      have t' : y2.toInt = 7 := by rw [e7']; decide
      exfalso
      omega
  · refine am_aload_n (i := 2) dL_law_527 rfl rfl ?_
    refine am_aload_n (i := 0) dL_law_528 rfl rfl ?_
    refine am_iload_n (i := 3) dL_law_529 rfl rfl ?_
    refine am_iconst (v := 1) dL_law_530 (by decide) ?_
    refine am_iadd dL_law_531 ?_
    refine am_sld dL_law_532 hL (nI_add (6 * k) 1) (by omega) hLt f1 ?_
    refine am_aload_n (i := 0) dL_law_533 rfl rfl ?_
    refine am_iload_n (i := 3) dL_law_534 rfl rfl ?_
    refine am_iconst (v := 2) dL_law_535 (by decide) ?_
    refine am_iadd dL_law_536 ?_
    refine am_sld dL_law_537 hL (nI_add (6 * k) 2) (by omega) hLt f2 ?_
    refine am_callV (ac' := 0) (as' := 0) (xs := [_, _]) dL_law_538 lkL_63 (by first | rfl | exact sk8 (by omega) | exact sk9 (by omega) | exact sk10 (by omega) | exact sk11 (by omega)) rfl rfl rfl rfl (Nat.le_of_ble_eq_true rfl) rfl rfl (cM_value hn hst hP2 (fun cr' => ?_) (fun v' hv' ev' co' => ?_) (fun v' j' hv' ev' hj' ej' => ?_) (fun v' hv' ev' e7' => ?_))
    · exact absurd (by rw [ev]; exact q_val_of hv hn) cr'
    · have t : y2.toInt = 7 := by rw [e7]; decide
      have t' := co'
      exfalso
      omega
    · have t : y2.toInt = 7 := by rw [e7]; decide
      have t' : y2.toInt = j' := by rw [ej']; exact nI_toInt (by omega)
      exfalso
      omega
    · have q1 : v' = v := nI_inj (by omega) (by omega) (ev'.symm.trans ev)
      subst q1
      refine am_icmp_eq_T (tgt := 569) dL_law_541 (by decide) (by rw [hlv v' hv]) ?_
      exact K _ hW
set_option maxRecDepth 100000 in
set_option maxHeartbeats 4000000 in
theorem lL_11 {g : am_G} {Q : Option am_V → am_H → Prop} {L0 k n : Nat} {A P : Nat → Nat → Int32} {st mk lv : Nat → Int32} {cl pr : Nat → Nat → Int32} {us : Nat → Int32} {si wk : Int32} {pa ce wd : Nat → Int32} (hS : lw_S g L0) (hk : 6 * k + 6 ≤ L0) (hI : q_I n A P st mk lv cl pr si wk pa ce wd) (K : ∀ h, lw_H h → am_T g mL_law 5 0 0 569 [some (am_O 100 0), some (am_O 0 0), some (am_O 20 0), some (am_I (nI (6 * k)))] [] h Q) : am_T g mL_law 5 0 0 546 [some (am_O 100 0), some (am_O 0 0), some (am_O 20 0), some (am_I (nI (6 * k)))] [] (hm (xc A P st mk lv cl pr us (nI n) si wk) (ym A P st mk pa ce wd us (nI n) si)) Q := by
  obtain ⟨hL, hLt, hsc⟩ := hS
  have hW : lw_H (hm (xc A P st mk lv cl pr us (nI n) si wk) (ym A P st mk pa ce wd us (nI n) si)) := ⟨n, A, P, st, mk, lv, cl, pr, us, si, wk, pa, ce, wd, hI, rfl⟩
  have hI0 := hI
  obtain ⟨hn, hA, hsh, hJ, hmk, hlv, hs0, hpa, hwd, hrel⟩ := hI
  have hA2 : ∀ m, m < n → q_arg (A m 3) m ∧ q_arg (A m 4) m := fun m hm => ⟨(hA m hm).1.1, (hA m hm).1.2.1⟩
  have hP := hJ.1
  have hP2 : ∀ m, m < n → q_arg (P m 3) m ∧ q_arg (P m 4) m := fun m hm => ⟨(hP m hm).1.1, (hP m hm).1.2.1⟩
  have hst := hI0.sts
  obtain ⟨y1, f1⟩ := hsc (6 * k + 1) (by omega)
  refine am_aload_n (i := 1) dL_law_546 rfl rfl ?_
  refine am_aload_n (i := 0) dL_law_547 rfl rfl ?_
  refine am_iload_n (i := 3) dL_law_548 rfl rfl ?_
  refine am_iconst (v := 1) dL_law_549 (by decide) ?_
  refine am_iadd dL_law_550 ?_
  refine am_sld dL_law_551 hL (nI_add (6 * k) 1) (by omega) hLt f1 ?_
  refine am_callV (ac' := 0) (as' := 0) (xs := [_]) dL_law_552 lkL_64 (by first | rfl | exact sk8 (by omega) | exact sk9 (by omega) | exact sk10 (by omega) | exact sk11 (by omega)) rfl rfl rfl rfl (Nat.le_of_ble_eq_true rfl) rfl rfl (cC_count hn hP (fun j h1 h2 ej => ?_) (fun e => ?_) (fun e => ?_) (fun e => ?_) (fun e => ?_) (fun cr => ?_))
  · refine am_aload_n (i := 2) dL_law_555 rfl rfl ?_
    refine am_aload_n (i := 0) dL_law_556 rfl rfl ?_
    refine am_iload_n (i := 3) dL_law_557 rfl rfl ?_
    refine am_iconst (v := 1) dL_law_558 (by decide) ?_
    refine am_iadd dL_law_559 ?_
    refine am_sld dL_law_560 hL (nI_add (6 * k) 1) (by omega) hLt f1 ?_
    refine am_callV (ac' := 0) (as' := 0) (xs := [_]) dL_law_561 lkL_67 (by first | rfl | exact sk8 (by omega) | exact sk9 (by omega) | exact sk10 (by omega) | exact sk11 (by omega)) rfl rfl rfl rfl (Nat.le_of_ble_eq_true rfl) rfl rfl (cM_count hn hst hP (fun j' h1' h2' ej' => ?_) (fun e' => ?_) (fun e' => ?_) (fun e' => ?_) (fun e' => ?_) (fun cr' => ?_))
    · have q2 : j' = j := nI_inj (by omega) (by omega) (ej'.symm.trans ej)
      subst q2
      refine am_icmp_eq_T (tgt := 569) dL_law_564 (by decide) rfl ?_
      exact K _ hW
    · have t : y1.toInt = j := by rw [ej]; exact nI_toInt (by omega)
      have t' : y1.toInt = 0 := by rw [e']; decide
      exfalso
      omega
    · have t : y1.toInt = j := by rw [ej]; exact nI_toInt (by omega)
      have t' : y1.toInt = 7 := by rw [e']; decide
      exfalso
      omega
    · have t : y1.toInt = j := by rw [ej]; exact nI_toInt (by omega)
      have t' : y1.toInt = 8 := by rw [e']; decide
      exfalso
      omega
    · have t : y1.toInt = j := by rw [ej]; exact nI_toInt (by omega)
      have t' : y1.toInt = 9 := by rw [e']; decide
      exfalso
      omega
    · have t : y1.toInt = j := by rw [ej]; exact nI_toInt (by omega)
      have t' := cr'
      exfalso
      omega
  · refine am_aload_n (i := 2) dL_law_555 rfl rfl ?_
    refine am_aload_n (i := 0) dL_law_556 rfl rfl ?_
    refine am_iload_n (i := 3) dL_law_557 rfl rfl ?_
    refine am_iconst (v := 1) dL_law_558 (by decide) ?_
    refine am_iadd dL_law_559 ?_
    refine am_sld dL_law_560 hL (nI_add (6 * k) 1) (by omega) hLt f1 ?_
    refine am_callV (ac' := 0) (as' := 0) (xs := [_]) dL_law_561 lkL_67 (by first | rfl | exact sk8 (by omega) | exact sk9 (by omega) | exact sk10 (by omega) | exact sk11 (by omega)) rfl rfl rfl rfl (Nat.le_of_ble_eq_true rfl) rfl rfl (cM_count hn hst hP (fun j' h1' h2' ej' => ?_) (fun e' => ?_) (fun e' => ?_) (fun e' => ?_) (fun e' => ?_) (fun cr' => ?_))
    · have t : y1.toInt = 0 := by rw [e]; decide
      have t' : y1.toInt = j' := by rw [ej']; exact nI_toInt (by omega)
      exfalso
      omega
    · refine am_icmp_eq_T (tgt := 569) dL_law_564 (by decide) rfl ?_
      exact K _ hW
    · have t : y1.toInt = 0 := by rw [e]; decide
      have t' : y1.toInt = 7 := by rw [e']; decide
      exfalso
      omega
    · have t : y1.toInt = 0 := by rw [e]; decide
      have t' : y1.toInt = 8 := by rw [e']; decide
      exfalso
      omega
    · have t : y1.toInt = 0 := by rw [e]; decide
      have t' : y1.toInt = 9 := by rw [e']; decide
      exfalso
      omega
    · have t : y1.toInt = 0 := by rw [e]; decide
      have t' := cr'
      exfalso
      omega
  · refine am_aload_n (i := 2) dL_law_555 rfl rfl ?_
    refine am_aload_n (i := 0) dL_law_556 rfl rfl ?_
    refine am_iload_n (i := 3) dL_law_557 rfl rfl ?_
    refine am_iconst (v := 1) dL_law_558 (by decide) ?_
    refine am_iadd dL_law_559 ?_
    refine am_sld dL_law_560 hL (nI_add (6 * k) 1) (by omega) hLt f1 ?_
    refine am_callV (ac' := 0) (as' := 0) (xs := [_]) dL_law_561 lkL_67 (by first | rfl | exact sk8 (by omega) | exact sk9 (by omega) | exact sk10 (by omega) | exact sk11 (by omega)) rfl rfl rfl rfl (Nat.le_of_ble_eq_true rfl) rfl rfl (cM_count hn hst hP (fun j' h1' h2' ej' => ?_) (fun e' => ?_) (fun e' => ?_) (fun e' => ?_) (fun e' => ?_) (fun cr' => ?_))
    · have t : y1.toInt = 7 := by rw [e]; decide
      have t' : y1.toInt = j' := by rw [ej']; exact nI_toInt (by omega)
      exfalso
      omega
    · have t : y1.toInt = 7 := by rw [e]; decide
      have t' : y1.toInt = 0 := by rw [e']; decide
      exfalso
      omega
    · refine am_icmp_eq_T (tgt := 569) dL_law_564 (by decide) (by rw [q_cnt_cg n hlv]) ?_
      exact K _ hW
    · have t : y1.toInt = 7 := by rw [e]; decide
      have t' : y1.toInt = 8 := by rw [e']; decide
      exfalso
      omega
    · have t : y1.toInt = 7 := by rw [e]; decide
      have t' : y1.toInt = 9 := by rw [e']; decide
      exfalso
      omega
    · have t : y1.toInt = 7 := by rw [e]; decide
      have t' := cr'
      exfalso
      omega
  · refine am_aload_n (i := 2) dL_law_555 rfl rfl ?_
    refine am_aload_n (i := 0) dL_law_556 rfl rfl ?_
    refine am_iload_n (i := 3) dL_law_557 rfl rfl ?_
    refine am_iconst (v := 1) dL_law_558 (by decide) ?_
    refine am_iadd dL_law_559 ?_
    refine am_sld dL_law_560 hL (nI_add (6 * k) 1) (by omega) hLt f1 ?_
    refine am_callV (ac' := 0) (as' := 0) (xs := [_]) dL_law_561 lkL_67 (by first | rfl | exact sk8 (by omega) | exact sk9 (by omega) | exact sk10 (by omega) | exact sk11 (by omega)) rfl rfl rfl rfl (Nat.le_of_ble_eq_true rfl) rfl rfl (cM_count hn hst hP (fun j' h1' h2' ej' => ?_) (fun e' => ?_) (fun e' => ?_) (fun e' => ?_) (fun e' => ?_) (fun cr' => ?_))
    · have t : y1.toInt = 8 := by rw [e]; decide
      have t' : y1.toInt = j' := by rw [ej']; exact nI_toInt (by omega)
      exfalso
      omega
    · have t : y1.toInt = 8 := by rw [e]; decide
      have t' : y1.toInt = 0 := by rw [e']; decide
      exfalso
      omega
    · have t : y1.toInt = 8 := by rw [e]; decide
      have t' : y1.toInt = 7 := by rw [e']; decide
      exfalso
      omega
    · refine am_icmp_eq_T (tgt := 569) dL_law_564 (by decide) (q_wsum_cg n hlv) ?_
      exact K _ hW
    · have t : y1.toInt = 8 := by rw [e]; decide
      have t' : y1.toInt = 9 := by rw [e']; decide
      exfalso
      omega
    · have t : y1.toInt = 8 := by rw [e]; decide
      have t' := cr'
      exfalso
      omega
  · refine am_aload_n (i := 2) dL_law_555 rfl rfl ?_
    refine am_aload_n (i := 0) dL_law_556 rfl rfl ?_
    refine am_iload_n (i := 3) dL_law_557 rfl rfl ?_
    refine am_iconst (v := 1) dL_law_558 (by decide) ?_
    refine am_iadd dL_law_559 ?_
    refine am_sld dL_law_560 hL (nI_add (6 * k) 1) (by omega) hLt f1 ?_
    refine am_callV (ac' := 0) (as' := 0) (xs := [_]) dL_law_561 lkL_67 (by first | rfl | exact sk8 (by omega) | exact sk9 (by omega) | exact sk10 (by omega) | exact sk11 (by omega)) rfl rfl rfl rfl (Nat.le_of_ble_eq_true rfl) rfl rfl (cM_count hn hst hP (fun j' h1' h2' ej' => ?_) (fun e' => ?_) (fun e' => ?_) (fun e' => ?_) (fun e' => ?_) (fun cr' => ?_))
    · have t : y1.toInt = 9 := by rw [e]; decide
      have t' : y1.toInt = j' := by rw [ej']; exact nI_toInt (by omega)
      exfalso
      omega
    · have t : y1.toInt = 9 := by rw [e]; decide
      have t' : y1.toInt = 0 := by rw [e']; decide
      exfalso
      omega
    · have t : y1.toInt = 9 := by rw [e]; decide
      have t' : y1.toInt = 7 := by rw [e']; decide
      exfalso
      omega
    · have t : y1.toInt = 9 := by rw [e]; decide
      have t' : y1.toInt = 8 := by rw [e']; decide
      exfalso
      omega
    · refine am_icmp_eq_T (tgt := 569) dL_law_564 (by decide) rfl ?_
      exact K _ hW
    · have t : y1.toInt = 9 := by rw [e]; decide
      have t' := cr'
      exfalso
      omega
  · refine am_aload_n (i := 2) dL_law_555 rfl rfl ?_
    refine am_aload_n (i := 0) dL_law_556 rfl rfl ?_
    refine am_iload_n (i := 3) dL_law_557 rfl rfl ?_
    refine am_iconst (v := 1) dL_law_558 (by decide) ?_
    refine am_iadd dL_law_559 ?_
    refine am_sld dL_law_560 hL (nI_add (6 * k) 1) (by omega) hLt f1 ?_
    refine am_callV (ac' := 0) (as' := 0) (xs := [_]) dL_law_561 lkL_67 (by first | rfl | exact sk8 (by omega) | exact sk9 (by omega) | exact sk10 (by omega) | exact sk11 (by omega)) rfl rfl rfl rfl (Nat.le_of_ble_eq_true rfl) rfl rfl (cM_count hn hst hP (fun j' h1' h2' ej' => ?_) (fun e' => ?_) (fun e' => ?_) (fun e' => ?_) (fun e' => ?_) (fun cr' => ?_))
    · have t := cr
      have t' : y1.toInt = j' := by rw [ej']; exact nI_toInt (by omega)
      exfalso
      omega
    · have t := cr
      have t' : y1.toInt = 0 := by rw [e']; decide
      exfalso
      omega
    · have t := cr
      have t' : y1.toInt = 7 := by rw [e']; decide
      exfalso
      omega
    · have t := cr
      have t' : y1.toInt = 8 := by rw [e']; decide
      exfalso
      omega
    · have t := cr
      have t' : y1.toInt = 9 := by rw [e']; decide
      exfalso
      omega
    · refine am_icmp_eq_T (tgt := 569) dL_law_564 (by decide) rfl ?_
      exact K _ hW
