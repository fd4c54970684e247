/-! ===== constructors: the cells are made one behind another ===== -/
def am_eq (h h' : am_H) : Prop := h.1 = h'.1 ∧ h.2.1 = h'.2.1 ∧ ∀ (r i : Nat) (kn : am_E), h.2.1 r i = some kn → ∀ k, k < kn.2 → h.2.2 r i k = h'.2.2 r i k
theorem arrV_cg {cA : ClassId} {n : Nat} {f f' : Nat → Value} (h : ∀ j, j < n → f j = f' j) : arrV cA n f = arrV cA n f' := by
  unfold arrV
  congr 2
  funext j
  exact h j.val j.isLt
theorem am_R.ext {g : am_G} {h h' : am_H} {H : Heap} (he : am_eq h h') (hR : am_R g h H) : am_R g h' H := by
  obtain ⟨e1, e2, e3⟩ := he
  obtain ⟨h1, h2, h3, h4, h5⟩ := hR
  refine ⟨by rw [← e1]; exact h1, h2, h3, fun r i kn hk => ?_, fun r i r' i' x y hx hy hab => h5 r i r' i' x y (by rw [e2]; exact hx) (by rw [e2]; exact hy) hab⟩
  have hk' : h.2.1 r i = some kn := by rw [e2]; exact hk
  obtain ⟨g1, g2⟩ := h4 r i kn hk'
  refine ⟨g1, ?_⟩
  obtain ⟨kd, n⟩ := kn
  cases kd with
  | inl ci =>
    obtain ⟨q, q1, q2, q3⟩ := g2
    exact ⟨q, q1, q2, q3.to (fun k hk => by rw [e3 r i _ hk' k (by rw [q2]; exact hk)])⟩
  | inr ty =>
    have g3 : H[am_ad g r i]? = some (arrV (gm_A g ty) n (fun j => am_c g (h.2.2 r i j))) := g2
    show H[am_ad g r i]? = some (arrV (gm_A g ty) n (fun j => am_c g (h'.2.2 r i j)))
    rw [g3, arrV_cg (fun j hj => by rw [e3 r i _ hk' j hj])]
theorem am_ext {g : am_G} {μ : am_M} {d ac as pc : Nat} {lv : List (Option am_V)} {st : List am_V} {h h' : am_H} {Q : Option am_V → am_H → Prop} (he : am_eq h h') (k : am_T g μ d ac as pc lv st h' Q) : am_T g μ d ac as pc lv st h Q :=
  fun R mc ms p e s m args below meth c H locs cells slots ls hR hX hh hS hl h1 h2 => k R mc ms p e s m args below meth c H locs cells slots ls hR hX (hh.ext he) hS hl h1 h2
def shN (N r i : Nat) : Option am_E := if am_pos r i < N then sh_K r i else none
def hz (N : Nat) (X Y : Nat → Nat → Nat → am_V) : am_H := (N, shN N, fun r i k => bif Nat.ble 20 r then Y (r - 20) i k else X r i k)
def am_inv (N : Nat) : Nat × Nat := if N < 7 then (N, 0) else if N < 35 then (10, N - 7) else if N < 36 then (7, 0) else if N < 40 then (11, N - 36) else if N < 41 then (12, 0) else if N < 97 then (if (N - 41) % 2 = 0 then (8, (N - 41) / 2) else (9, (N - 42) / 2)) else (N - 77, 0)
theorem am_inv_pos {r i : Nat} {x : am_E} (h : sh_K r i = some x) : am_inv (am_pos r i) = (r, i) := by
  match r, h with
  | 0, h =>
    cases i with
    | zero => rfl
    | succ i => cases h
  | 1, h =>
    cases i with
    | zero => rfl
    | succ i => cases h
  | 2, h =>
    cases i with
    | zero => rfl
    | succ i => cases h
  | 3, h =>
    cases i with
    | zero => rfl
    | succ i => cases h
  | 4, h =>
    cases i with
    | zero => rfl
    | succ i => cases h
  | 5, h =>
    cases i with
    | zero => rfl
    | succ i => cases h
  | 6, h =>
    cases i with
    | zero => rfl
    | succ i => cases h
  | 7, h =>
    cases i with
    | zero => rfl
    | succ i => cases h
  | 12, h =>
    cases i with
    | zero => rfl
    | succ i => cases h
  | 20, h =>
    cases i with
    | zero => rfl
    | succ i => cases h
  | 21, h =>
    cases i with
    | zero => rfl
    | succ i => cases h
  | 22, h =>
    cases i with
    | zero => rfl
    | succ i => cases h
  | 23, h =>
    cases i with
    | zero => rfl
    | succ i => cases h
  | 24, h =>
    cases i with
    | zero => rfl
    | succ i => cases h
  | 25, h =>
    cases i with
    | zero => rfl
    | succ i => cases h
  | 26, h =>
    cases i with
    | zero => rfl
    | succ i => cases h
  | 27, h =>
    cases i with
    | zero => rfl
    | succ i => cases h
  | 28, h =>
    cases i with
    | zero => rfl
    | succ i => cases h
  | 29, h =>
    cases i with
    | zero => rfl
    | succ i => cases h
  | 30, h =>
    cases i with
    | zero => rfl
    | succ i => cases h
  | 31, h =>
    cases i with
    | zero => rfl
    | succ i => cases h
  | 32, h =>
    cases i with
    | zero => rfl
    | succ i => cases h
  | 33, h =>
    cases i with
    | zero => rfl
    | succ i => cases h
  | 8, h =>
    have hi : i < 28 := by
      rcases Nat.lt_or_ge i 28 with q | q
      · exact q
      · rw [show sh_K 8 i = none from if_neg (by omega)] at h
        cases h
    show am_inv (41 + 2 * i) = (8, i)
    unfold am_inv
    rw [if_neg (by omega), if_neg (by omega), if_neg (by omega), if_neg (by omega), if_neg (by omega), if_pos (by omega), if_pos (by omega)]
    congr 1
    omega
  | 9, h =>
    have hi : i < 28 := by
      rcases Nat.lt_or_ge i 28 with q | q
      · exact q
      · rw [show sh_K 9 i = none from if_neg (by omega)] at h
        cases h
    show am_inv (42 + 2 * i) = (9, i)
    unfold am_inv
    rw [if_neg (by omega), if_neg (by omega), if_neg (by omega), if_neg (by omega), if_neg (by omega), if_pos (by omega), if_neg (by omega)]
    congr 1
    omega
  | 10, h =>
    have hi : i < 28 := by
      rcases Nat.lt_or_ge i 28 with q | q
      · exact q
      · rw [show sh_K 10 i = none from if_neg (by omega)] at h
        cases h
    show am_inv (7 + i) = (10, i)
    unfold am_inv
    rw [if_neg (by omega), if_pos (by omega)]
    congr 1
    omega
  | 11, h =>
    have hi : i < 4 := by
      rcases Nat.lt_or_ge i 4 with q | q
      · exact q
      · rw [show sh_K 11 i = none from if_neg (by omega)] at h
        cases h
    show am_inv (36 + i) = (11, i)
    unfold am_inv
    rw [if_neg (by omega), if_neg (by omega), if_neg (by omega), if_pos (by omega)]
    congr 1
    omega
  | 13, h => cases h
  | 14, h => cases h
  | 15, h => cases h
  | 16, h => cases h
  | 17, h => cases h
  | 18, h => cases h
  | 19, h => cases h
  | r + 34, h => cases h
theorem am_pos_inj {r i r' i' : Nat} {x y : am_E} (h : sh_K r i = some x) (h' : sh_K r' i' = some y) (e : am_pos r i = am_pos r' i') : r = r' ∧ i = i' := by
  have q := (am_inv_pos h).symm.trans ((congrArg am_inv e).trans (am_inv_pos h'))
  exact ⟨congrArg Prod.fst q, congrArg Prod.snd q⟩
theorem shN_some {N r i : Nat} {x : am_E} (hp : am_pos r i < N) (h : sh_K r i = some x) : shN N r i = some x := (if_pos hp).trans h
theorem shN_none {N r i : Nat} (hp : N ≤ am_pos r i) : shN N r i = none := if_neg (by omega)
theorem shN_of {N r i : Nat} {x : am_E} (h : shN N r i = some x) : am_pos r i < N ∧ sh_K r i = some x := by
  unfold shN at h
  split at h
  · rename_i q
    exact ⟨q, h⟩
  · cases h
theorem sh_r {r i : Nat} {x : am_E} (h : sh_K r i = some x) : r ≠ 100 := fun q => by
  subst q
  cases h
theorem hz_nw {N r i : Nat} {X Y : Nat → Nat → Nat → am_V} {kn : am_E} {z : Nat → am_V} (hk : sh_K r i = some kn) (hp : am_pos r i = N) (hz0 : (hz N X Y).2.2 r i = z) : am_nw (hz N X Y) r i kn z = hz (N + 1) X Y := by
  refine Prod.ext rfl (Prod.ext ?_ ?_)
  · funext r' i'
    show (if r' = r ∧ i' = i then some kn else shN N r' i') = shN (N + 1) r' i'
    by_cases e : r' = r ∧ i' = i
    · obtain ⟨rfl, rfl⟩ := e
      rw [if_pos ⟨rfl, rfl⟩, shN_some (by omega) hk]
    · rw [if_neg e]
      unfold shN
      by_cases h1 : am_pos r' i' < N
      · rw [if_pos h1, if_pos (by omega)]
      · rw [if_neg h1]
        by_cases h2 : am_pos r' i' < N + 1
        · rw [if_pos h2]
          cases hs : sh_K r' i' with
          | none => rfl
          | some y => exact absurd (am_pos_inj hs hk (by omega)) e
        · rw [if_neg h2]
  · funext r' i'
    show (if r' = r ∧ i' = i then z else (hz N X Y).2.2 r' i') = (hz (N + 1) X Y).2.2 r' i'
    by_cases e : r' = r ∧ i' = i
    · obtain ⟨rfl, rfl⟩ := e
      rw [if_pos ⟨rfl, rfl⟩, ← hz0]
      rfl
    · rw [if_neg e]
      rfl
theorem hz_all {X Y : Nat → Nat → Nat → am_V} : hz 111 X Y = hm X Y := by
  refine Prod.ext rfl (Prod.ext ?_ rfl)
  funext r i
  show shN 111 r i = sh_K r i
  cases hs : sh_K r i with
  | none =>
    unfold shN
    split
    · exact hs
    · rfl
  | some x =>
    refine shN_some ?_ hs
    have h := am_inv_pos hs
    match r, hs with
    | 0, _ => show 0 < 111; omega
    | 1, _ => show 1 < 111; omega
    | 2, _ => show 2 < 111; omega
    | 3, _ => show 3 < 111; omega
    | 4, _ => show 4 < 111; omega
    | 5, _ => show 5 < 111; omega
    | 6, _ => show 6 < 111; omega
    | 7, _ => show 35 < 111; omega
    | 12, _ => show 40 < 111; omega
    | 20, _ => show 97 < 111; omega
    | 21, _ => show 98 < 111; omega
    | 22, _ => show 99 < 111; omega
    | 23, _ => show 100 < 111; omega
    | 24, _ => show 101 < 111; omega
    | 25, _ => show 102 < 111; omega
    | 26, _ => show 103 < 111; omega
    | 27, _ => show 104 < 111; omega
    | 28, _ => show 105 < 111; omega
    | 29, _ => show 106 < 111; omega
    | 30, _ => show 107 < 111; omega
    | 31, _ => show 108 < 111; omega
    | 32, _ => show 109 < 111; omega
    | 33, _ => show 110 < 111; omega
    | 8, hs =>
      have hi : i < 28 := by
        rcases Nat.lt_or_ge i 28 with q | q
        · exact q
        · rw [show sh_K 8 i = none from if_neg (by omega)] at hs
          cases hs
      show 41 + 2 * i < 111
      omega
    | 9, hs =>
      have hi : i < 28 := by
        rcases Nat.lt_or_ge i 28 with q | q
        · exact q
        · rw [show sh_K 9 i = none from if_neg (by omega)] at hs
          cases hs
      show 42 + 2 * i < 111
      omega
    | 10, hs =>
      have hi : i < 28 := by
        rcases Nat.lt_or_ge i 28 with q | q
        · exact q
        · rw [show sh_K 10 i = none from if_neg (by omega)] at hs
          cases hs
      show 7 + i < 111
      omega
    | 11, hs =>
      have hi : i < 4 := by
        rcases Nat.lt_or_ge i 4 with q | q
        · exact q
        · rw [show sh_K 11 i = none from if_neg (by omega)] at hs
          cases hs
      show 36 + i < 111
      omega
    | 13, hs => cases hs
    | 14, hs => cases hs
    | 15, hs => cases hs
    | 16, hs => cases hs
    | 17, hs => cases hs
    | 18, hs => cases hs
    | 19, hs => cases hs
    | r + 34, hs => cases hs
/-- the class's memory while it is made: the object's fields, the two arrays of operations -/
def xi (o p1 p2 : Nat → am_V) (r i k : Nat) : am_V := match r with
  | 0 => match i with
    | 0 => o k
    | _ => am_N
  | 1 => match i with
    | 0 => p1 k
    | _ => am_N
  | 2 => match i with
    | 0 => p2 k
    | _ => am_N
  | 6 => match i with
    | 0 => am_O 10 k
    | _ => am_N
  | 7 => match i with
    | 0 => am_O 11 k
    | _ => am_N
  | _ => am_I 0
def yi (o : Nat → am_V) (r i k : Nat) : am_V := match r with
  | 0 => match i with
    | 0 => o k
    | _ => am_N
  | _ => am_I 0
def upV (f : Nat → am_V) (k : Nat) (v : am_V) : Nat → am_V := fun j => if j = k then v else f j
theorem hz_o {N : Nat} {Y : Nat → Nat → Nat → am_V} {o p1 p2 : Nat → am_V} {k : Nat} {v : am_V} : am_up (hz N (xi o p1 p2) Y) 0 0 k v = hz N (xi (upV o k v) p1 p2) Y := by
  refine Prod.ext rfl (Prod.ext rfl ?_)
  funext r' i' k'
  show (if r' = 0 ∧ i' = 0 ∧ k' = k then v else (bif Nat.ble 20 r' then Y (r' - 20) i' k' else xi o p1 p2 r' i' k')) = (bif Nat.ble 20 r' then Y (r' - 20) i' k' else xi (upV o k v) p1 p2 r' i' k')
  by_cases hr : r' = 0
  · subst hr
    cases i' with
    | zero =>
      show (if 0 = 0 ∧ 0 = 0 ∧ k' = k then v else o k') = upV o k v k'
      unfold upV
      by_cases hc : k' = k
      · rw [if_pos ⟨rfl, rfl, hc⟩, if_pos hc]
      · rw [if_neg (fun q => hc q.2.2), if_neg hc]
    | succ i => rw [if_neg (fun q => by omega)]; rfl
  · rw [if_neg (fun q => hr q.1)]
    congr 1
    match r', hr with
    | 0, h => first | rfl | exact absurd rfl h
    | 1, h => first | rfl | exact absurd rfl h
    | 2, h => first | rfl | exact absurd rfl h
    | 3, _ => rfl
    | 4, _ => rfl
    | 5, _ => rfl
    | 6, _ => rfl
    | 7, _ => rfl
    | n + 8, _ => rfl
theorem hz_p1 {N : Nat} {Y : Nat → Nat → Nat → am_V} {o p1 p2 : Nat → am_V} {k : Nat} {v : am_V} : am_up (hz N (xi o p1 p2) Y) 1 0 k v = hz N (xi o (upV p1 k v) p2) Y := by
  refine Prod.ext rfl (Prod.ext rfl ?_)
  funext r' i' k'
  show (if r' = 1 ∧ i' = 0 ∧ k' = k then v else (bif Nat.ble 20 r' then Y (r' - 20) i' k' else xi o p1 p2 r' i' k')) = (bif Nat.ble 20 r' then Y (r' - 20) i' k' else xi o (upV p1 k v) p2 r' i' k')
  by_cases hr : r' = 1
  · subst hr
    cases i' with
    | zero =>
      show (if 1 = 1 ∧ 0 = 0 ∧ k' = k then v else p1 k') = upV p1 k v k'
      unfold upV
      by_cases hc : k' = k
      · rw [if_pos ⟨rfl, rfl, hc⟩, if_pos hc]
      · rw [if_neg (fun q => hc q.2.2), if_neg hc]
    | succ i => rw [if_neg (fun q => by omega)]; rfl
  · rw [if_neg (fun q => hr q.1)]
    congr 1
    match r', hr with
    | 0, h => first | rfl | exact absurd rfl h
    | 1, h => first | rfl | exact absurd rfl h
    | 2, h => first | rfl | exact absurd rfl h
    | 3, _ => rfl
    | 4, _ => rfl
    | 5, _ => rfl
    | 6, _ => rfl
    | 7, _ => rfl
    | n + 8, _ => rfl
theorem hz_p2 {N : Nat} {Y : Nat → Nat → Nat → am_V} {o p1 p2 : Nat → am_V} {k : Nat} {v : am_V} : am_up (hz N (xi o p1 p2) Y) 2 0 k v = hz N (xi o p1 (upV p2 k v)) Y := by
  refine Prod.ext rfl (Prod.ext rfl ?_)
  funext r' i' k'
  show (if r' = 2 ∧ i' = 0 ∧ k' = k then v else (bif Nat.ble 20 r' then Y (r' - 20) i' k' else xi o p1 p2 r' i' k')) = (bif Nat.ble 20 r' then Y (r' - 20) i' k' else xi o p1 (upV p2 k v) r' i' k')
  by_cases hr : r' = 2
  · subst hr
    cases i' with
    | zero =>
      show (if 2 = 2 ∧ 0 = 0 ∧ k' = k then v else p2 k') = upV p2 k v k'
      unfold upV
      by_cases hc : k' = k
      · rw [if_pos ⟨rfl, rfl, hc⟩, if_pos hc]
      · rw [if_neg (fun q => hc q.2.2), if_neg hc]
    | succ i => rw [if_neg (fun q => by omega)]; rfl
  · rw [if_neg (fun q => hr q.1)]
    congr 1
    match r', hr with
    | 0, h => first | rfl | exact absurd rfl h
    | 1, h => first | rfl | exact absurd rfl h
    | 2, h => first | rfl | exact absurd rfl h
    | 3, _ => rfl
    | 4, _ => rfl
    | 5, _ => rfl
    | 6, _ => rfl
    | 7, _ => rfl
    | n + 8, _ => rfl
theorem hz_y {N : Nat} {X : Nat → Nat → Nat → am_V} {o : Nat → am_V} {k : Nat} {v : am_V} : am_up (hz N X (yi o)) 20 0 k v = hz N X (yi (upV o k v)) := by
  refine Prod.ext rfl (Prod.ext rfl ?_)
  funext r' i' k'
  show (if r' = 20 ∧ i' = 0 ∧ k' = k then v else (bif Nat.ble 20 r' then yi o (r' - 20) i' k' else X r' i' k')) = (bif Nat.ble 20 r' then yi (upV o k v) (r' - 20) i' k' else X r' i' k')
  cases hb : Nat.ble 20 r' with
  | false =>
    rw [if_neg (fun q => by rw [q.1] at hb; cases hb)]
    rfl
  | true =>
    have h20 : 20 ≤ r' := Nat.le_of_ble_eq_true hb
    show _ = yi (upV o k v) (r' - 20) i' k'
    by_cases hr : r' = 20
    · subst hr
      cases i' with
      | zero =>
        show (if 20 = 20 ∧ 0 = 0 ∧ k' = k then v else o k') = upV o k v k'
        unfold upV
        by_cases hc : k' = k
        · rw [if_pos ⟨rfl, rfl, hc⟩, if_pos hc]
        · rw [if_neg (fun q => hc q.2.2), if_neg hc]
      | succ i => rw [if_neg (fun q => by omega)]; rfl
    · rw [if_neg (fun q => hr q.1)]
      show yi o (r' - 20) i' k' = _
      obtain ⟨n, hn⟩ : ∃ n, r' - 20 = n + 1 := ⟨r' - 21, by omega⟩
      rw [hn]
      rfl
/-- a grid is made -/
theorem am_multi {g : am_G} {μ : am_M} {d ac as pc : Nat} {lv : List (Option am_V)} {st : List am_V} {X Y : Nat → Nat → Nat → am_V} {Q : Option am_V → am_H → Prop} {N L Wd idx : Nat} {x y : Int32} (ro rr : Nat) (hd : decode μ.2.1 pc = .ok (.multianewarray idx 2, 4)) (hcl : Cond.classLink μ.1.cls idx "[[I" ∈ am_TW) (hxL : x = nI L) (hyW : y = nI Wd) (hL : L ≤ 1000) (hW : Wd ≤ 1000)
    (hpo : am_pos ro 0 = N) (hko : sh_K ro 0 = some (.inr (.array .int), L)) (hpr : ∀ i, i < L → am_pos rr i = N + 1 + i ∧ sh_K rr i = some (.inr .int, Wd)) (hMo : ∀ k, (hz N X Y).2.2 ro 0 k = am_O rr k) (hMr : ∀ i k, (hz N X Y).2.2 rr i k = am_I 0)
    (kk : am_T g μ d ac as (pc + 4) lv (am_O ro 0 :: st) (hz (N + 1 + L) X Y) Q) : am_T g μ d (ac + (1 + L)) (as + (L + L * Wd)) pc lv (am_I y :: am_I x :: st) (hz N X Y) Q := by
  intro R mc ms p e s m args below meth c H locs cells slots ls hR hX hh hS hl h1 h2
  obtain ⟨b1, b2, b3, b4, b5⟩ := hh
  obtain ⟨kA, hkA, hkindA⟩ := hX.2.2.2.2.1.2.2.2.2.2.2.2
  obtain ⟨-, kC, hkC, cc, hkindC⟩ := (hX.2.2.2.2.1.2.1 .int (by decide)).1 0 (fun _ => .null)
  have hfA : s.vm.findClass "[[I" = some (gm_A g (.array .int)) := (hX.2.2.2.2.1.2.1 (.array .int) (by decide)).2
  have hN0 : H.size = gm_n g + N := b1
  have hado : am_ad g ro 0 = H.size := by unfold am_ad; rw [if_neg (sh_r hko), hpo, hN0]
  have hadr : ∀ i, i < L → am_ad g rr i = H.size + 1 + i := fun i hi => by
    unfold am_ad
    rw [if_neg (sh_r (hpr i hi).2), (hpr i hi).1, hN0]
    omega
  intro T hT Xs
  subst hT
  obtain ⟨vm₁, hwarm, X', step⟩ := mw_step Xs hX.1 hX.2.2.1 (hX.2.2.2.1 _ hcl) hfA hkA hkindA hkC hkindC (g := F0 m pc ls ((am_I y :: am_I x :: st).map (am_c g))) rfl (by rw [hX.2.1]; exact hd) (n := x) (k := y) (N := L) (M := Wd) rfl (by rw [hxL]; exact nI_pos (by omega)) (by rw [hyW]; exact nI_pos (by omega)) (by rw [hxL]; exact nI_clamp (by omega)) (by rw [hyW]; exact nI_clamp (by omega)) hL hW (by omega) (by omega)
  obtain ⟨f1, f2, -, -, f5, f6⟩ := mw_facts (T.setVm vm₁) (gm_A g (.array .int)) (gm_A g .int) L Wd L
  have f1 : (mw_st (T.setVm vm₁) (gm_A g (.array .int)) (gm_A g .int) L Wd L).heap.size = T.heap.size + 1 + L := f1
  have f5 : ∀ a : Nat, a < T.heap.size → (mw_st (T.setVm vm₁) (gm_A g (.array .int)) (gm_A g .int) L Wd L).heap[a]? = T.heap[a]? := f5
  have f2 : (mw_st (T.setVm vm₁) (gm_A g (.array .int)) (gm_A g .int) L Wd L).heap[T.heap.size]? = some (mw_out (gm_A g (.array .int)) L T.heap.size L) := f2
  have f6 : ∀ j : Nat, j < L → (mw_st (T.setVm vm₁) (gm_A g (.array .int)) (gm_A g .int) L Wd L).heap[T.heap.size + 1 + j]? = some (arrV (gm_A g .int) Wd (fun _ => .int 0)) := f6
  generalize mw_st (T.setVm vm₁) (gm_A g (.array .int)) (gm_A g .int) L Wd L = F at X' step f1 f2 f5 f6
  have hh' : am_R g (hz (N + 1 + L) X Y) F.heap := by
    refine ⟨by rw [f1, hN0]; show _ = gm_n g + (N + 1 + L); omega, b2, by rw [f5 _ (by omega)]; exact b3, fun r i kn hk => ?_, fun r i r' i' u v hu hv hab => ?_⟩
    · obtain ⟨hp, hs⟩ := shN_of (show shN (N + 1 + L) r i = some kn from hk)
      have hr := sh_r hs
      have had : am_ad g r i = gm_n g + am_pos r i := by unfold am_ad; rw [if_neg hr]
      refine ⟨by rw [had]; omega, ?_⟩
      rcases Nat.lt_or_ge (am_pos r i) N with q | q
      · obtain ⟨-, g2⟩ := b4 r i kn (shN_some q hs)
        exact g2.kept (f5 _ g2.lt)
      · by_cases e : am_pos r i = N
        · obtain ⟨rfl, rfl⟩ := am_pos_inj hs hko (e.trans hpo.symm)
          cases hs.symm.trans hko
          show F.heap[am_ad g r 0]? = some (arrV (gm_A g (.array .int)) L (fun j => am_c g ((hz N X Y).2.2 r 0 j)))
          rw [hado, f2]
          unfold mw_out
          rw [arrV_cg (fun j hj => ?_)]
          rw [if_pos hj, hMo]
          show _ = Value.ref (am_ad g rr j)
          rw [hadr j hj]
        · obtain ⟨j, hj⟩ : ∃ j, am_pos r i = N + 1 + j := ⟨am_pos r i - (N + 1), by omega⟩
          have hjL : j < L := by omega
          obtain ⟨rfl, rfl⟩ := am_pos_inj hs (hpr j hjL).2 (hj.trans (hpr j hjL).1.symm)
          cases hs.symm.trans (hpr i hjL).2
          show F.heap[am_ad g r i]? = some (arrV (gm_A g .int) Wd (fun z => am_c g ((hz N X Y).2.2 r i z)))
          rw [hadr i hjL, f6 i hjL]
          exact congrArg some (arrV_cg (fun z _ => (congrArg (am_c g) (hMr i z)).symm))
    · obtain ⟨-, hs⟩ := shN_of (show shN (N + 1 + L) r i = some u from hu)
      obtain ⟨-, hs'⟩ := shN_of (show shN (N + 1 + L) r' i' = some v from hv)
      refine am_pos_inj hs hs' ?_
      unfold am_ad at hab
      rw [if_neg (sh_r hs), if_neg (sh_r hs')] at hab
      omega
  have hS' : va_S (am_A g) s.heap F.heap (locs ++ (List.range L).map fun j => ⟨T.heap.size, j⟩) := ⟨Nat.le_trans hS.1 (by omega), fun q q1 q2 => (f5 q (Nat.lt_of_lt_of_le q1 hS.1)).trans (hS.2.1 q q1 q2), fun q hq => by
    rcases List.mem_append.mp hq with z | z
    · exact hS.2.2 q z
    · obtain ⟨j, -, rfl⟩ := List.mem_map.mp z
      show gm_n g ≤ T.heap.size
      omega⟩
  have := kk R mc ms p e s m args below meth c F.heap _ (cells + 1 + L) (slots + L + L * Wd) ls hR hX hh' hS' hl (by omega) (by omega)
  rw [show (am_O ro 0 :: st).map (am_c g) = .ref T.heap.size :: st.map (am_c g) by show Value.ref (am_ad g ro 0) :: _ = _; rw [hado]] at this
  obtain ⟨t, a1, c1⟩ := this F rfl X'
  exact ⟨t, step t a1, c1⟩
