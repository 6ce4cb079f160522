/-! pure: a part is opened; decode and decodeAll -/
theorem empty_L (N : Nat) : ∀ (q i n : Nat) (ho : Nat → Int32), i + q = 8 → q < n → (∀ j : Nat, j < i → ho j = 0) → ∃ ho' : Nat → Int32, d_Boxes_emptyAll_L2 N n (nI i) ho = some ho' ∧ ∀ j : Nat, j < 8 → ho' j = 0 := by
  intro q
  induction q with
  | zero =>
    intro i n ho hi hn h
    obtain ⟨n, rfl⟩ : ∃ q, n = q + 1 := ⟨n - 1, by omega⟩
    obtain rfl : i = 8 := by omega
    exact ⟨ho, by rw [d_Boxes_emptyAll_L2, if_pos (show (8 : Int32) ≤ nI 8 from nI_le (a := 8) (b := 8) (Nat.le_refl _) (by decide))], h⟩
  | succ q ih =>
    intro i n ho hi hn h
    obtain ⟨n, rfl⟩ : ∃ q, n = q + 1 := ⟨n - 1, by omega⟩
    rw [d_Boxes_emptyAll_L2, if_neg (show ¬ (8 : Int32) ≤ nI i from nI_ge (a := i) (b := 8) (by omega) (by decide)), gI_n (by omega) (by decide), nI_clamp (by omega), nI_1]
    refine ih (i + 1) n _ (by omega) (by omega) (fun j hj => ?_)
    by_cases e : j = i
    · subst e
      exact upd_at _ _ _
    · rw [upd_ne _ _ e]
      exact h j (by omega)
theorem L40_all (N : Nat) (x : Int32) (mb hd nu co si gu : Nat → Int32) (b1 b2 b3 b4 b5 b6 : Int32) (re mv mt came sg rw : Nat → Int32) : ∀ (q i n : Nat) (bx : Nat → Int32), i + q = 8 → q < n → (∀ j : Nat, j < i → bx j = (-2 : Int32)) → ∃ bx' : Nat → Int32, d_Mod_open_L40 N x mb hd nu co si gu n (nI i) b1 b2 b3 b4 b5 b6 re mv mt came bx sg rw = some (b1, b2, b3, b4, b5, b6, re, mv, mt, came, bx', sg, rw) ∧ ∀ j : Nat, j < 8 → bx' j = (-2 : Int32) := by
  intro q
  induction q with
  | zero =>
    intro i n bx hi hn h
    obtain ⟨n, rfl⟩ : ∃ q, n = q + 1 := ⟨n - 1, by omega⟩
    obtain rfl : i = 8 := by omega
    exact ⟨bx, by rw [d_Mod_open_L40, if_pos (show (8 : Int32) ≤ nI 8 from nI_le (a := 8) (b := 8) (Nat.le_refl _) (by decide))], h⟩
  | succ q ih =>
    intro i n bx hi hn h
    obtain ⟨n, rfl⟩ : ∃ q, n = q + 1 := ⟨n - 1, by omega⟩
    rw [d_Mod_open_L40, if_neg (show ¬ (8 : Int32) ≤ nI i from nI_ge (a := i) (b := 8) (by omega) (by decide)), gI_n (by omega) (by decide), nI_clamp (by omega), nI_1]
    refine ih (i + 1) n _ (by omega) (by omega) (fun j hj => ?_)
    by_cases e : j = i
    · subst e
      exact upd_at _ _ _
    · rw [upd_ne _ _ e]
      exact h j (by omega)
theorem p_make {N k e : Nat} {mb hd nu co si gu : Nat → Int32} {dec fai : Int32} {re mv mt : Nat → Int32} (hN : 300 ≤ N) {b z c : Nat} (hz : z ≤ 64) (he : e = b + z) (he2 : e ≤ 1200) (hk : k < 16) {dt : Nat → Int32} (hD : RelD b z dt mb) (hc4 : c ≤ 4) (hc : co k = nI c) (made came ho nm ln : Nat → Int32) (rs : Nat → Nat → Int32) (bx sg rw : Nat → Int32) (hbx : ∀ j : Nat, j < 8 → bx j = (-2 : Int32)) : ∃ (w : Nat) (c' at' mn' : Int32) (made' came' ho' nm' ln' : Nat → Int32) (rs' : Nat → Nat → Int32) (bx' sg' rw' : Nat → Int32), w ≤ 6 ∧ (w = 0 → RelM 16 made' came') ∧ d_Dec_makeSamples N (nI c) (nI z) 0 dt made ho nm ln rs = some (nI w, c', made', ho', nm', ln', rs') ∧ d_Mod_open_L60 N (nI k) mb hd nu co si gu N dec fai (nI b) (nI e) 0 0 re mv mt came bx sg rw = some (dec, fai, at', nI e, mn', nI w, re, mv, mt, came', bx', sg', rw') := by
  unfold d_Dec_makeSamples
  rcases (show c = 0 ∨ c = 1 ∨ c = 2 ∨ c = 3 ∨ c = 4 by omega) with rfl | rfl | rfl | rfl | rfl
  · obtain ⟨w, c', at', mn', made', came', h1, h2, h3, h4⟩ := p_c0 (N := N) (k := k) (e := e) (mb := mb) (hd := hd) (nu := nu) (co := co) (si := si) (gu := gu) (dec := dec) (fai := fai) (re := re) (mv := mv) (mt := mt) hN hz he he2 hk hD bx sg rw hc z 0 0 N N made came (by omega) (by omega) (by omega) (by omega) RelM_0
    rw [Nat.add_zero, E0] at h4
    rw [E0] at h3
    refine ⟨w, c', at', mn', made', came', ho, nm, ln, rs, bx, sg, rw, h1, h2, ?_, h4⟩
    unfold d_Dec_copyBytes
    rw [if_pos (show nI 0 = (0 : Int32) from rfl), h3, Option.bind_some]
  · obtain ⟨w, c', at', mn', made', came', h1, h2, h3, h4⟩ := p_c1 (N := N) (k := k) (e := e) (mb := mb) (hd := hd) (nu := nu) (co := co) (si := si) (gu := gu) (dec := dec) (fai := fai) (re := re) (mv := mv) (mt := mt) hN hz he he2 hk hD bx sg rw hc z 0 0 N N made came (by omega) (by omega) (by omega) (by omega) RelM_0
    rw [Nat.add_zero, E0] at h4
    rw [E0] at h3
    refine ⟨w, c', at', mn', made', came', ho, nm, ln, rs, bx, sg, rw, h1, h2, ?_, h4⟩
    unfold d_Dec_repeatValues
    rw [if_neg (show ¬ nI 1 = (0 : Int32) by decide), if_pos (show nI 1 = (1 : Int32) from rfl), h3, Option.bind_some]
  · obtain ⟨w, c', at', mn', made', came', h1, h2, h3, h4⟩ := p_c2 (N := N) (k := k) (e := e) (mb := mb) (hd := hd) (nu := nu) (co := co) (si := si) (gu := gu) (dec := dec) (fai := fai) (re := re) (mv := mv) (mt := mt) hN hz he he2 hk hD bx sg rw hc z 0 0 N N made came (by omega) (by omega) (by omega) (by omega) RelM_0
    rw [Nat.add_zero, E0] at h4
    rw [E0] at h3
    refine ⟨w, c', at', mn', made', came', ho, nm, ln, rs, bx, sg, rw, h1, h2, ?_, h4⟩
    unfold d_Dec_divide
    rw [if_neg (show ¬ nI 2 = (0 : Int32) by decide), if_neg (show ¬ nI 2 = (1 : Int32) by decide), if_pos (show nI 2 = (2 : Int32) from rfl), h3, Option.bind_some]
  · obtain ⟨ho1, f1, f2⟩ := empty_L N 8 0 N ho (by omega) (by omega) (fun j hj => absurd hj (Nat.not_lt_zero j))
    have hX : RelX ho1 nm ln rs bx sg rw := fun j hj => Or.inl ⟨f2 j hj, hbx j hj⟩
    obtain ⟨w, c', at', mn', made', came', ho', nm', ln', rs', bx', sg', rw', h1, h2, h3, h4⟩ := p_c3 (N := N) (k := k) (e := e) (mb := mb) (hd := hd) (nu := nu) (co := co) (si := si) (gu := gu) (dec := dec) (fai := fai) (re := re) (mv := mv) (mt := mt) hN hz he he2 hk hD hc z 0 0 N N made came ho1 nm ln rs bx sg rw (by omega) (by omega) (by omega) (by omega) RelM_0 hX
    rw [Nat.add_zero, E0] at h4
    rw [E0] at h3 f1
    refine ⟨w, c', at', mn', made', came', ho', nm', ln', rs', bx', sg', rw', h1, h2, ?_, h4⟩
    unfold d_Dec_useBoxes d_Boxes_emptyAll
    rw [if_neg (show ¬ nI 3 = (0 : Int32) by decide), if_neg (show ¬ nI 3 = (1 : Int32) by decide), if_neg (show ¬ nI 3 = (2 : Int32) by decide), if_pos (show nI 3 = (3 : Int32) from rfl), f1, Option.bind_some, Option.bind_some, h3, Option.bind_some]
  · obtain ⟨w, c', at', mn', made', came', h1, h2, h3, h4⟩ := p_c4 (N := N) (k := k) (e := e) (mb := mb) (hd := hd) (nu := nu) (co := co) (si := si) (gu := gu) (dec := dec) (fai := fai) (re := re) (mv := mv) (mt := mt) hN hz he he2 hk hD bx sg rw hc z 0 N N made came (by omega) (by omega) (by omega) (by omega) RelM_0
    rw [Nat.add_zero, E0] at h4
    rw [E0] at h3
    refine ⟨w, c', at', mn', made', came', ho, nm, ln, rs, bx, sg, rw, h1, h2, ?_, h4⟩
    unfold d_Dec_addDifferences
    rw [if_neg (show ¬ nI 4 = (0 : Int32) by decide), if_neg (show ¬ nI 4 = (1 : Int32) by decide), if_neg (show ¬ nI 4 = (2 : Int32) by decide), if_neg (show ¬ nI 4 = (3 : Int32) by decide), h3, Option.bind_some]
theorem RelS_idx (nb j : Nat) : nI nb * (16 : Int32) + nI j = nI (16 * nb + j) := by
  rw [show nI nb * (16 : Int32) = nI (nb * 16) from pk_mul nb 16, nI_add, Nat.mul_comm]
theorem RelS_idx' (nb j : Nat) : (16 : Int32) * nI nb + nI j = nI (16 * nb + j) := by
  rw [show (16 : Int32) * nI nb = nI (16 * nb) from pk_mul 16 nb, nI_add]
theorem p_tell {N k nb g : Nat} (hk : k < 16) (hnb : nb < 16) (hg : g ≤ 1) {mb hd nu co si gu : Nat → Int32} (hnu : nu k = nI nb) (hgu : gu k = nI g) (dec fai at' en mn : Int32) (re bx sg rw : Nat → Int32) {made came : Nat → Int32} (hM : RelM 16 made came) : ∀ (q j n1 n2 : Nat) (v t mv mt : Nat → Int32), j + q = 16 → q < n1 → q < n2 → RelS v t mv mt → ∃ v' t' mv' mt' : Nat → Int32, RelS v' t' mv' mt' ∧ d_Map_tellRow_L3 N (nI nb) (nI g) made n1 (nI j) v t = some (v', t') ∧ d_Mod_open_L189 N (nI k) mb hd nu co si gu n2 (nI j) dec fai at' en mn 0 re mv mt came bx sg rw = some (dec, fai, at', en, mn, 0, re, mv', mt', came, bx, sg, rw) := by
  intro q
  induction q with
  | zero =>
    intro j n1 n2 v t mv mt hj h1 h2 hS
    obtain ⟨n1, rfl⟩ : ∃ q, n1 = q + 1 := ⟨n1 - 1, by omega⟩
    obtain ⟨n2, rfl⟩ : ∃ q, n2 = q + 1 := ⟨n2 - 1, by omega⟩
    obtain rfl : j = 16 := by omega
    have hc : (16 : Int32) ≤ nI 16 := nI_le (a := 16) (b := 16) (Nat.le_refl _) (by decide)
    exact ⟨v, t, mv, mt, hS, by rw [d_Map_tellRow_L3, if_pos hc], by rw [d_Mod_open_L189, if_pos hc]⟩
  | succ q ih =>
    intro j n1 n2 v t mv mt hj h1 h2 hS
    obtain ⟨n1, rfl⟩ : ∃ q, n1 = q + 1 := ⟨n1 - 1, by omega⟩
    obtain ⟨n2, rfl⟩ : ∃ q, n2 = q + 1 := ⟨n2 - 1, by omega⟩
    have hc : ¬ (16 : Int32) ≤ nI j := nI_ge (a := j) (b := 16) (by omega) (by decide)
    obtain ⟨x, hx, x1, x2⟩ := hM j (by omega)
    obtain ⟨s, hs, y1, y2, -⟩ := hS (16 * nb + j) (by omega)
    rw [d_Map_tellRow_L3, if_neg hc, d_Mod_open_L189, if_neg hc, if_pos (show (0 : Int32) = 0 from rfl), gI_n hk (by decide), nI_clamp (show k < 2 ^ 31 by omega), hnu, hgu, RelS_idx, RelS_idx']
    have gA : ∀ {α : Type} (X : Option α), gI (nI (16 * nb + j)) 256 X = X := fun X => gI_n (by omega) (by decide)
    have gB : ∀ {α : Type} (X : Option α), gI (nI j) 16 X = X := fun X => gI_n (by omega) (by decide)
    simp only [gA, gB]
    rw [nI_clamp (show 16 * nb + j < 2 ^ 31 by omega), nI_clamp (show j < 2 ^ 31 by omega), x1, x2, y1, y2, nI_1]
    rcases (show g = 0 ∨ g = 1 by omega) with rfl | rfl
    · rw [if_pos E0, if_pos E0, if_pos E0, if_pos E0]
      exact ih (j + 1) n1 n2 _ _ _ _ (by omega) (by omega) (by omega) (RelS_tell hS (q := 1) (by decide) (by decide) hx)
    · have c0 : ¬ nI 1 = (0 : Int32) := by decide
      rw [if_neg c0, if_neg c0, if_neg c0, if_neg c0]
      by_cases hs1 : nI s = (1 : Int32)
      · rw [if_pos hs1, if_pos hs1]
        exact ih (j + 1) n1 n2 _ _ _ _ (by omega) (by omega) (by omega) hS
      · rw [if_neg hs1, if_neg hs1]
        exact ih (j + 1) n1 n2 _ _ _ _ (by omega) (by omega) (by omega) (RelS_tell hS (q := 2) (by decide) (by decide) hx)
theorem tell_bad {N : Nat} (hN : 0 < N) (x : Int32) (mb hd nu co si gu : Nat → Int32) (dec fai at' en mn : Int32) {w : Int32} (hw : ¬ w = 0) (re mv mt came bx sg rw : Nat → Int32) : d_Mod_open_L189 N x mb hd nu co si gu N 0 dec fai at' en mn w re mv mt came bx sg rw = some (dec, fai, at', en, mn, w, re, mv, mt, came, bx, sg, rw) := by
  obtain ⟨n, hn⟩ : ∃ q, N = q + 1 := ⟨N - 1, by omega⟩
  have h : ∀ n : Nat, d_Mod_open_L189 N x mb hd nu co si gu (n + 1) 0 dec fai at' en mn w re mv mt came bx sg rw = some (dec, fai, at', en, mn, w, re, mv, mt, came, bx, sg, rw) := fun n => by
    rw [d_Mod_open_L189, if_neg (show ¬ (16 : Int32) ≤ 0 by decide), if_neg hw]
  have h2 := h n
  rw [← hn] at h2
  exact h2
theorem RelP_res {pn bc : Nat} {P : Nat → Nat → Int32} {hd nu co si gu re : Nat → Int32} (hP : RelP pn bc P hd nu co si gu re) (k : Nat) (x : Int32) : RelP pn bc (upd2 P k 5 x) hd nu co si gu (upd re k x) := fun j hj => by
  by_cases e : j = k
  · subst e
    obtain ⟨h, n, c, z, g, b1, b2, b3, b4, b5, ⟨p0, m0⟩, ⟨p1, m1⟩, ⟨p2, m2⟩, ⟨p3, m3⟩, ⟨p4, m4⟩, p5⟩ := hP j hj
    have up : upd2 P j 5 x j = upd (P j) 5 x := va_up_self _ _ _
    rw [up]
    refine ⟨h, n, c, z, g, b1, b2, b3, b4, b5, ⟨?_, m0⟩, ⟨?_, m1⟩, ⟨?_, m2⟩, ⟨?_, m3⟩, ⟨?_, m4⟩, ?_⟩
    · rw [upd_ne _ _ (by decide), p0]
    · rw [upd_ne _ _ (by decide), p1]
    · rw [upd_ne _ _ (by decide), p2]
    · rw [upd_ne _ _ (by decide), p3]
    · rw [upd_ne _ _ (by decide), p4]
    · rw [upd_at, upd_at]
  · have up : upd2 P k 5 x j = P j := va_up_ne _ _ e
    rw [up, upd_ne _ _ e]
    exact hP j hj
theorem res_col (P : Nat → Nat → Int32) (k : Nat) (x : Int32) {j : Nat} (h : j ≠ 5) : upd2 P k 5 x k j = P k j := by
  have up : upd2 P k 5 x k = upd (P k) 5 x := va_up_self _ _ _
  rw [up, upd_ne _ _ h]
theorem p_load (N : Nat) {b z : Nat} (hz : z ≤ 64) (hb : b + z ≤ 1200) (sz ct : Int32) (dt : Nat → Int32) {cb mb : Nat → Int32} (hB : RelB cb mb) : ∃ dt' : Nat → Int32, RelD b z dt' mb ∧ d_Dec_load N (nI b) (nI z) sz ct dt cb = some (nI z, 0, dt') := by
  refine ⟨va_cpy cb dt b 0 z, fun i hi => ?_, ?_⟩
  · obtain ⟨v, hv, e1, e2⟩ := hB (b + i) (by omega)
    refine ⟨v, hv, ?_, e2⟩
    unfold va_cpy
    rw [if_pos ⟨by omega, by omega⟩, Nat.sub_zero, e1]
  · unfold d_Dec_load gC
    have n0 : ∀ a : Nat, a < 2000 → ¬ nI a < (0 : Int32) := fun a ha q => by
      have := (nI_ltI (b := 0) (show a < 2 ^ 31 by omega) (by decide)).mp q
      omega
    rw [nI_clamp (show b < 2 ^ 31 by omega), nI_clamp (show z < 2 ^ 31 by omega), z0, if_pos ⟨n0 b (by omega), by decide, n0 z (by omega), hb, by omega⟩]
theorem q_open {N : Nat} (hN : 300 ≤ N) {pn bc k : Nat} (hk : k < pn) (hpn : pn ≤ 16) (hb : bc ≤ 1200) {cb mb : Nat → Int32} (hB : RelB cb mb) {P : Nat → Nat → Int32} {hd nu co si gu re : Nat → Int32} (hP : RelP pn bc P hd nu co si gu re) {v t mv mt : Nat → Int32} (hS : RelS v t mv mt) (dec fai sz ct : Int32) (dt made ho nm ln : Nat → Int32) (rs : Nat → Nat → Int32) (at0 en0 mn0 wr0 : Int32) (came bx sg rw : Nat → Int32) : ∃ (w : Nat) (fai' sz' ct' : Int32) (dt' made' ho' nm' ln' v' t' : Nat → Int32) (rs' P' : Nat → Nat → Int32) (at' en' mn' wr' : Int32) (re' mv' mt' came' bx' sg' rw' : Nat → Int32), w ≤ 6 ∧ RelS v' t' mv' mt' ∧ RelP pn bc P' hd nu co si gu re' ∧ d_MR_decodePart N k dec fai cb sz ct dt made ho nm ln v t rs P = some (nI w, dec + (1 : Int32), fai', sz', ct', dt', made', ho', nm', ln', v', t', rs', P') ∧ d_Mod_open N (nI k) dec fai at0 en0 mn0 wr0 mb hd nu co si gu re mv mt came bx sg rw = some (nI w, dec + (1 : Int32), fai', at', en', mn', wr', re', mv', mt', came', bx', sg', rw') := by
  obtain ⟨h, n, c, z, g, b1, b2, b3, b4, b5, ⟨p0, m0⟩, ⟨p1, m1⟩, ⟨p2, m2⟩, ⟨p3, m3⟩, ⟨p4, m4⟩, p5⟩ := hP k hk
  obtain ⟨dt1, hD, ld⟩ := p_load N (b := h + 6) (z := z) b4 (by omega) sz ct dt hB
  obtain ⟨bx1, l40, hbx⟩ := L40_all N (nI k) mb hd nu co si gu dec fai (nI (h + 6)) (nI (h + 6 + z)) 0 0 re mv mt came sg rw 8 0 N bx (by omega) (by omega) (fun j hj => absurd hj (Nat.not_lt_zero j))
  obtain ⟨w, c', at', mn', made', came', ho', nm', ln', rs', bx', sg', rw', hw, hw0, mk, l60⟩ := p_make (N := N) (k := k) (e := h + 6 + z) (mb := mb) (hd := hd) (nu := nu) (co := co) (si := si) (gu := gu) (dec := dec) (fai := fai) (re := re) (mv := mv) (mt := mt) hN (b := h + 6) (z := z) (c := c) b4 rfl (by omega) (by omega) hD b3 m2 made came ho nm ln rs bx1 sg rw hbx
  rw [E0] at l40
  have rp := RelP_res hP k (nI w)
  unfold d_MR_decodePart d_Mod_open
  rw [z0, z1', z2', z3', z4', z5', p0, p2, p3, a6, ld, Option.bind_some]
  dsimp only
  rw [mk, Option.bind_some]
  dsimp only
  rw [res_col P k (nI w) (by decide), res_col P k (nI w) (by decide), p4, p1, gI_n (show k < 16 by omega) (by decide), nI_clamp (show k < 2 ^ 31 by omega), m0, m3, a6, nI_add, l40, Option.bind_some]
  dsimp only
  rw [l60, Option.bind_some]
  dsimp only
  rw [gI_n (show k < 16 by omega) (by decide), gI_n (show k < 16 by omega) (by decide)]
  by_cases h0 : w = 0
  · subst h0
    rw [if_pos E0, if_pos (show nI 0 ≤ (0 : Int32) by decide)]
    obtain ⟨v', t', mv', mt', hS', t1, t2⟩ := p_tell (N := N) (k := k) (nb := n) (g := g) (by omega) b2 b5 m1 m4 (mb := mb) (hd := hd) (co := co) (si := si) (dec + (1 : Int32)) fai at' (nI (h + 6 + z)) mn' (upd re k (nI 0)) bx' sg' rw' (hw0 rfl) 16 0 N N v t mv mt (by omega) (by omega) (by omega) hS
    rw [E0] at t1 t2 rp ⊢
    rw [t2, Option.bind_some]
    dsimp only
    unfold d_Map_tellRow
    rcases (show g = 0 ∨ g = 1 by omega) with rfl | rfl
    · rw [E0] at t1
      rw [if_neg (show ¬ nI 0 = (1 : Int32) by decide), t1, Option.bind_some, Option.bind_some]
      exact ⟨0, fai, _, _, _, _, _, _, _, _, _, _, _, _, _, _, _, _, _, _, _, _, _, _, by omega, hS', rp, rfl, rfl⟩
    · rw [E1] at t1
      rw [if_pos E1, t1, Option.bind_some, Option.bind_some]
      exact ⟨0, fai, _, _, _, _, _, _, _, _, _, _, _, _, _, _, _, _, _, _, _, _, _, _, by omega, hS', rp, rfl, rfl⟩
  · have cw : ¬ nI w = (0 : Int32) := fun q => h0 ((eq0 (by omega)).mp q)
    rw [if_neg cw, if_neg (show ¬ nI w ≤ (0 : Int32) from fun q => h0 (by have := (le0 (by omega)).mp q; omega)), tell_bad (by omega) _ _ _ _ _ _ _ _ _ _ _ _ cw, Option.bind_some]
    exact ⟨w, fai + 1, _, _, _, _, _, _, _, _, _, _, _, _, _, _, _, _, _, _, _, _, _, _, hw, hS, rp, rfl, rfl⟩
theorem q_decode (y : Int32) {N : Nat} (hN : 300 ≤ N) (thr : Int32) {pn rn bc : Nat} (hpn : pn ≤ 16) (hrn : rn ≤ 1) (hb : bc ≤ 1200) {cb mb : Nat → Int32} (hB : RelB cb mb) {P : Nat → Nat → Int32} {hd nu co si gu re : Nat → Int32} (hP : RelP pn bc P hd nu co si gu re) {v t mv mt : Nat → Int32} (hS : RelS v t mv mt) (dec fai sz ct : Int32) (dt made ho nm ln : Nat → Int32) (rs : Nat → Nat → Int32) (f : Nat → Int64) (at0 en0 mn0 wr0 : Int32) (came bx sg rw : Nat → Int32) : ∃ (x b dec' fai' sz' ct' : Int32) (dt' made' ho' nm' ln' v' t' : Nat → Int32) (rs' P' : Nat → Nat → Int32) (f' : Nat → Int64) (at' en' mn' wr' : Int32) (re' mv' mt' came' bx' sg' rw' : Nat → Int32), d_Law_decode N y (nI pn) (nI rn) dec fai cb sz ct dt made ho nm ln v t rs P f = some (x, dec', fai', sz', ct', dt', made', ho', nm', ln', v', t', rs', P', f') ∧ d_Mod_decode N y thr (nI rn) (nI pn) dec fai at0 en0 mn0 wr0 mb hd nu co si gu re mv mt came bx sg rw = some (b, x, dec', fai', at', en', mn', wr', re', mv', mt', came', bx', sg', rw') ∧ (x = 0 → lg_cmp (f' (0 : Int32).toNatClampNeg) b.toInt64 = 0) ∧ RelS v' t' mv' mt' ∧ RelP pn bc P' hd nu co si gu re' := by
  unfold d_Law_decode d_MR_decode d_MR_requirePart d_MR_requireRun d_Mod_decode d_Mod_partCode
  by_cases h0 : nI rn = 0
  · rw [if_pos h0, if_pos h0]
    exact ⟨1, 0, dec, fai, sz, ct, dt, made, ho, nm, ln, v, t, rs, P, f, at0, en0, mn0, wr0, re, mv, mt, came, bx, sg, rw, rfl, rfl, fun h => absurd h (by decide), hS, hP⟩
  rw [if_neg h0, if_neg h0]
  simp only [Option.bind_some, exB_ok']
  by_cases h1 : y < 0
  · rw [if_pos h1, if_pos h1]
    exact ⟨2, 0, dec, fai, sz, ct, dt, made, ho, nm, ln, v, t, rs, P, f, at0, en0, mn0, wr0, re, mv, mt, came, bx, sg, rw, rfl, rfl, fun h => absurd h (by decide), hS, hP⟩
  rw [if_neg h1, if_neg h1]
  by_cases h2 : y < nI pn
  · obtain ⟨j, hj, rfl⟩ := nI_of_lt (by omega) h1 h2
    rw [if_pos h2, if_pos h2]
    simp only [Option.bind_some, exB_ok']
    obtain ⟨w, fai', sz', ct', dt', made', ho', nm', ln', v', t', rs', P', at', en', mn', wr', re', mv', mt', came', bx', sg', rw', hw, k1, k2, k3, k4⟩ := q_open hN hj hpn hb hB hP hS dec fai sz ct dt made ho nm ln rs at0 en0 mn0 wr0 came bx sg rw
    rw [gI_n (by omega) (by decide), nI_clamp (by omega), k3, if_pos le00, k4]
    simp only [Option.bind_some, exC_ok']
    exact ⟨0, nI w, _, _, _, _, _, _, _, _, _, _, _, _, _, _, _, _, _, _, _, _, _, _, _, _, _, rfl, rfl, fun _ => ans0 f (nI w), k1, k2⟩
  · rw [if_neg h2, if_neg h2]
    exact ⟨2, 0, dec, fai, sz, ct, dt, made, ho, nm, ln, v, t, rs, P, f, at0, en0, mn0, wr0, re, mv, mt, came, bx, sg, rw, rfl, rfl, fun h => absurd h (by decide), hS, hP⟩
theorem p_all {N : Nat} (hN : 300 ≤ N) (hr mr : Int32) {pn bc : Nat} (hpn : pn ≤ 16) (hb : bc ≤ 1200) {cb mb : Nat → Int32} (hB : RelB cb mb) {hd nu co si gu : Nat → Int32} : ∀ (q j n1 n2 : Nat) (r dec fai sz ct : Int32) (dt made ho nm ln v t : Nat → Int32) (rs P : Nat → Nat → Int32) (at0 en0 mn0 wr0 : Int32) (re mv mt came bx sg rw : Nat → Int32), j + q = pn → q < n1 → q < n2 → RelS v t mv mt → RelP pn bc P hd nu co si gu re → ∃ (r1 dec' fai' sz' ct' : Int32) (dt' made' ho' nm' ln' v' t' : Nat → Int32) (rs' P' : Nat → Nat → Int32) (at' en' mn' wr' : Int32) (re' mv' mt' came' bx' sg' rw' : Nat → Int32), RelS v' t' mv' mt' ∧ RelP pn bc P' hd nu co si gu re' ∧ d_MR_decodeAll_L8 N (nI pn) hr cb n1 r (nI j) dec fai sz ct dt made ho nm ln v t rs P = some (r1, dec', fai', sz', ct', dt', made', ho', nm', ln', v', t', rs', P') ∧ d_Mod_decodeAll_L20 N mr (nI pn) mb hd nu co si gu n2 r (nI j) 0 dec fai at0 en0 mn0 wr0 re mv mt came bx sg rw = some (r1, 0, dec', fai', at', en', mn', wr', re', mv', mt', came', bx', sg', rw') := by
  intro q
  induction q with
  | zero =>
    intro j n1 n2 r dec fai sz ct dt made ho nm ln v t rs P at0 en0 mn0 wr0 re mv mt came bx sg rw hj h1 h2 hS hP
    obtain ⟨n1, rfl⟩ : ∃ q, n1 = q + 1 := ⟨n1 - 1, by omega⟩
    obtain ⟨n2, rfl⟩ : ∃ q, n2 = q + 1 := ⟨n2 - 1, by omega⟩
    obtain rfl : j = pn := by omega
    have hc : nI j ≤ nI j := nI_le (Nat.le_refl _) (by omega)
    rw [d_MR_decodeAll_L8, if_pos hc, d_Mod_decodeAll_L20, if_pos hc]
    exact ⟨_, _, _, _, _, _, _, _, _, _, _, _, _, _, _, _, _, _, _, _, _, _, _, _, _, hS, hP, rfl, rfl⟩
  | succ q ih =>
    intro j n1 n2 r dec fai sz ct dt made ho nm ln v t rs P at0 en0 mn0 wr0 re mv mt came bx sg rw hj h1 h2 hS hP
    obtain ⟨n1, rfl⟩ : ∃ q, n1 = q + 1 := ⟨n1 - 1, by omega⟩
    obtain ⟨n2, rfl⟩ : ∃ q, n2 = q + 1 := ⟨n2 - 1, by omega⟩
    have hc : ¬ nI pn ≤ nI j := nI_ge (by omega) (by omega)
    obtain ⟨w, fai', sz', ct', dt', made', ho', nm', ln', v', t', rs', P', at', en', mn', wr', re', mv', mt', came', bx', sg', rw', hw, k1, k2, k3, k4⟩ := q_open hN (k := j) (by omega) hpn hb hB hP hS dec fai sz ct dt made ho nm ln rs at0 en0 mn0 wr0 came bx sg rw
    rw [d_MR_decodeAll_L8, if_neg hc, d_Mod_decodeAll_L20, if_neg hc, if_pos (show (0 : Int32) = 0 from rfl), gI_n (by omega) (by decide), nI_clamp (by omega), k3, k4, Option.bind_some, Option.bind_some, nI_1]
    dsimp only
    by_cases w0 : w = 0
    · rw [if_pos (show nI w = (0 : Int32) from (eq0 (by omega)).mpr w0), if_pos (show nI w ≤ (0 : Int32) from (le0 (by omega)).mpr (by omega))]
      exact ih (j + 1) n1 n2 _ _ _ _ _ _ _ _ _ _ _ _ _ _ _ _ _ _ _ _ _ _ _ _ _ (by omega) (by omega) (by omega) k1 k2
    · rw [if_neg (show ¬ nI w = (0 : Int32) from fun q => w0 ((eq0 (by omega)).mp q)), if_neg (show ¬ nI w ≤ (0 : Int32) from fun q => w0 (by have := (le0 (by omega)).mp q; omega))]
      exact ih (j + 1) n1 n2 _ _ _ _ _ _ _ _ _ _ _ _ _ _ _ _ _ _ _ _ _ _ _ _ _ (by omega) (by omega) (by omega) k1 k2
theorem q_decodeAll {N : Nat} (hN : 300 ≤ N) (thr : Int32) {pn rn bc : Nat} (hpn : pn ≤ 16) (hrn : rn ≤ 1) (hb : bc ≤ 1200) {cb mb : Nat → Int32} (hB : RelB cb mb) {P : Nat → Nat → Int32} {hd nu co si gu re : Nat → Int32} (hP : RelP pn bc P hd nu co si gu re) {v t mv mt : Nat → Int32} (hS : RelS v t mv mt) (dec fai sz ct : Int32) (dt made ho nm ln : Nat → Int32) (rs : Nat → Nat → Int32) (f : Nat → Int64) (at0 en0 mn0 wr0 : Int32) (came bx sg rw : Nat → Int32) : ∃ (x b dec' fai' sz' ct' : Int32) (dt' made' ho' nm' ln' v' t' : Nat → Int32) (rs' P' : Nat → Nat → Int32) (f' : Nat → Int64) (at' en' mn' wr' : Int32) (re' mv' mt' came' bx' sg' rw' : Nat → Int32), d_Law_decodeAll N (nI pn) (nI rn) dec fai cb sz ct dt made ho nm ln v t rs P f = some (x, dec', fai', sz', ct', dt', made', ho', nm', ln', v', t', rs', P', f') ∧ d_Mod_decodeAll N thr (nI rn) (nI pn) dec fai at0 en0 mn0 wr0 mb hd nu co si gu re mv mt came bx sg rw = some (b, x, dec', fai', at', en', mn', wr', re', mv', mt', came', bx', sg', rw') ∧ (x = 0 → lg_cmp (f' (0 : Int32).toNatClampNeg) b.toInt64 = 0) ∧ RelS v' t' mv' mt' ∧ RelP pn bc P' hd nu co si gu re' := by
  unfold d_Law_decodeAll d_MR_decodeAll d_MR_requireRun d_Mod_decodeAll
  by_cases h0 : nI rn = 0
  · rw [if_pos h0, if_pos h0]
    obtain ⟨n, hn⟩ : ∃ q, N = q + 1 := ⟨N - 1, by omega⟩
    have h : ∀ n : Nat, d_Mod_decodeAll_L20 N (nI rn) (nI pn) mb hd nu co si gu (n + 1) 0 0 1 dec fai at0 en0 mn0 wr0 re mv mt came bx sg rw = some (0, 1, dec, fai, at0, en0, mn0, wr0, re, mv, mt, came, bx, sg, rw) := fun n => by
      rw [d_Mod_decodeAll_L20, if_neg ne10, ite_self]
    have h2 := h n
    rw [← hn] at h2
    rw [h2]
    exact ⟨1, 0, dec, fai, sz, ct, dt, made, ho, nm, ln, v, t, rs, P, f, at0, en0, mn0, wr0, re, mv, mt, came, bx, sg, rw, rfl, rfl, fun h => absurd h (by decide), hS, hP⟩
  rw [if_neg h0, if_neg h0]
  simp only [Option.bind_some, exB_ok']
  obtain ⟨r1, dec', fai', sz', ct', dt', made', ho', nm', ln', v', t', rs', P', at', en', mn', wr', re', mv', mt', came', bx', sg', rw', k1, k2, k3, k4⟩ := p_all hN (nI rn) (nI rn) hpn hb hB pn 0 N N 0 dec fai sz ct dt made ho nm ln v t rs P at0 en0 mn0 wr0 re mv mt came bx sg rw (by omega) (by omega) (by omega) hS hP
  rw [E0] at k3 k4
  rw [k3, k4]
  simp only [Option.bind_some, exC_ok']
  exact ⟨0, r1, _, _, _, _, _, _, _, _, _, _, _, _, _, _, _, _, _, _, _, _, _, _, _, _, _, rfl, rfl, fun _ => ans0 f r1, k1, k2⟩

