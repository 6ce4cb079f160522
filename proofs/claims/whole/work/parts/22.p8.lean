/-! pure: decoding; the base, and the codes 0, 1, 2 and 4 -/
def RelD (b z : Nat) (dt mb : Nat → Int32) : Prop := ∀ i : Nat, i < z → ∃ v : Nat, v < 256 ∧ dt i = nI v ∧ mb (b + i) = nI v
def RelM (m : Nat) (made came : Nat → Int32) : Prop := ∀ j : Nat, j < m → ∃ x : Nat, x < 256 ∧ made j = nI x ∧ came j = nI x
theorem RelM_add {m : Nat} {made came : Nat → Int32} (h : RelM m made came) {x : Nat} (hx : x < 256) : RelM (m + 1) (upd made m (nI x)) (upd came m (nI x)) := fun j hj => by
  by_cases e : j = m
  · subst e
    exact ⟨x, hx, upd_at _ _ _, upd_at _ _ _⟩
  · rw [upd_ne _ _ e, upd_ne _ _ e]
    exact h j (by omega)
theorem RelM_0 {made came : Nat → Int32} : RelM 0 made came := fun j hj => absurd hj (Nat.not_lt_zero j)
theorem ne10 : ¬ (1 : Int32) = 0 := by decide
theorem le00 : (0 : Int32) ≤ 0 := by decide
theorem nle10 : ¬ (1 : Int32) ≤ 0 := by decide
theorem goes_run (N : Nat) {m : Nat} (h : m < 16) : d_Mod_goes N (nI m) 0 = some 1 := by
  unfold d_Mod_goes
  rw [if_pos rfl, if_neg (show ¬ (16 : Int32) ≤ nI m from nI_ge (a := m) (b := 16) h (by decide))]
theorem goes_full (N : Nat) : d_Mod_goes N (nI 16) 0 = some 0 := by
  unfold d_Mod_goes
  rw [if_pos rfl, if_pos (show (16 : Int32) ≤ nI 16 from nI_le (a := 16) (b := 16) (Nat.le_refl _) (by decide))]
theorem goes_bad (N : Nat) (mn : Int32) {w : Int32} (h : ¬ w = 0) : d_Mod_goes N mn w = some 0 := by
  unfold d_Mod_goes
  rw [if_neg h]
theorem take_ok (N : Nat) {a e : Nat} (h : a < e) (he : e ≤ 1200) (mb : Nat → Int32) : d_Mod_take N (nI a) (nI e) 0 mb = some (mb a, nI (a + 1), 0) := by
  unfold d_Mod_take
  rw [if_pos le00, if_neg (fun q => Nat.ne_of_lt h ((nI_eq (by omega) (by omega)).mp q)), a1, show nI (a + 1) - (1 : Int32) = nI a from by rw [s1 (by omega)]; rfl, gI_n (by omega) (by decide), nI_clamp (by omega)]
theorem take_end (N e : Nat) (mb : Nat → Int32) : d_Mod_take N (nI e) (nI e) 0 mb = some (0, nI e, 1) := by
  unfold d_Mod_take
  rw [if_pos le00, if_pos rfl]
  rfl
theorem take_bad (N : Nat) (at' e : Int32) (mb : Nat → Int32) : d_Mod_take N at' e 1 mb = some (0, at', 1) := by
  unfold d_Mod_take
  rw [if_neg nle10]
theorem give_ok (N : Nat) (x : Int32) {m : Nat} (h : m < 16) (came : Nat → Int32) : d_Mod_give N x (nI m) 0 came = some (nI (m + 1), upd came m x) := by
  unfold d_Mod_give
  rw [if_pos rfl, gI_n h (by decide), nI_clamp (by omega), a1]
theorem give_bad (N : Nat) (x mn : Int32) {w : Int32} (h : ¬ w = 0) (came : Nat → Int32) : d_Mod_give N x mn w came = some (mn, came) := by
  unfold d_Mod_give
  rw [if_neg h]
theorem add_ok (N : Nat) (x : Int32) {m : Nat} (h : m < 16) (made : Nat → Int32) : d_Dec_add N x (nI m) made = some (nI (m + 1), upd made m x) := by
  unfold d_Dec_add
  rw [gI_n h (by decide), nI_clamp (by omega), a1]
theorem full_no (N : Nat) {m : Nat} (h : m < 16) : d_Dec_isFull N (nI m) = some 0 := by
  unfold d_Dec_isFull
  rw [if_pos (show nI m < (16 : Int32) from nI_lt (b := 16) h (by decide))]
theorem full_yes (N : Nat) : d_Dec_isFull N (nI 16) = some 1 := by
  unfold d_Dec_isFull
  rw [if_neg (show ¬ nI 16 < (16 : Int32) by decide)]
theorem end_no (N : Nat) {m : Nat} (h : m < 16) : d_Dec_atEnd N (nI m) = some 1 := by
  unfold d_Dec_atEnd
  rw [full_no N h, Option.bind_some, if_pos rfl]
theorem end_yes (N : Nat) : d_Dec_atEnd N (nI 16) = some 0 := by
  unfold d_Dec_atEnd
  rw [full_yes N, Option.bind_some, if_neg ne10]
theorem s1' (m : Nat) : nI (m + 1) - (1 : Int32) = nI m := by
  rw [s1 (by omega)]
  rfl
theorem L60_full (N k e : Nat) (mb hd nu co si gu : Nat → Int32) (dec fai : Int32) (re mv mt : Nat → Int32) (n : Nat) (at' : Int32) (came bx sg rw : Nat → Int32) : d_Mod_open_L60 N (nI k) mb hd nu co si gu (n + 1) dec fai at' (nI e) (nI 16) 0 re mv mt came bx sg rw = some (dec, fai, at', nI e, nI 16, 0, re, mv, mt, came, bx, sg, rw) := by
  rw [d_Mod_open_L60, goes_full, Option.bind_some, if_pos rfl]
theorem L60_bad (N k e : Nat) (mb hd nu co si gu : Nat → Int32) (dec fai : Int32) (re mv mt : Nat → Int32) (n : Nat) (at' mn : Int32) {w : Int32} (hw : ¬ w = 0) (came bx sg rw : Nat → Int32) : d_Mod_open_L60 N (nI k) mb hd nu co si gu (n + 1) dec fai at' (nI e) mn w re mv mt came bx sg rw = some (dec, fai, at', nI e, mn, w, re, mv, mt, came, bx, sg, rw) := by
  rw [d_Mod_open_L60, goes_bad N mn hw, Option.bind_some, if_pos rfl]
theorem L60_c0 (N k e : Nat) (mb hd nu co si gu : Nat → Int32) (dec fai : Int32) (re mv mt : Nat → Int32) (n : Nat) (at' : Int32) (came bx sg rw : Nat → Int32) {m : Nat} (hm : m < 16) (hk : k < 16) (hc : co k = nI 0) : d_Mod_open_L60 N (nI k) mb hd nu co si gu (n + 1) dec fai at' (nI e) (nI m) 0 re mv mt came bx sg rw = (d_Mod_take N at' (nI e) 0 mb).bind (fun o61005 => (d_Mod_give N o61005.1 (nI m) o61005.2.2 came).bind (fun o61006 => d_Mod_open_L60 N (nI k) mb hd nu co si gu n dec fai o61005.2.1 (nI e) o61006.1 o61005.2.2 re mv mt o61006.2 bx sg rw)) := by
  rw [d_Mod_open_L60, goes_run N hm, Option.bind_some, if_neg ne10, gI_n hk (by decide), nI_clamp (by omega), hc, if_pos (show nI 0 = (0 : Int32) from rfl)]
theorem L60_c1 (N k e : Nat) (mb hd nu co si gu : Nat → Int32) (dec fai : Int32) (re mv mt : Nat → Int32) (n : Nat) (at' : Int32) (came bx sg rw : Nat → Int32) {m : Nat} (hm : m < 16) (hk : k < 16) (hc : co k = nI 1) : d_Mod_open_L60 N (nI k) mb hd nu co si gu (n + 1) dec fai at' (nI e) (nI m) 0 re mv mt came bx sg rw = (d_Mod_repeated N at' (nI e) (nI m) 0 mb came).bind (fun o61008 => d_Mod_open_L60 N (nI k) mb hd nu co si gu n dec fai o61008.1 (nI e) o61008.2.1 o61008.2.2.1 re mv mt o61008.2.2.2 bx sg rw) := by
  rw [d_Mod_open_L60, goes_run N hm, Option.bind_some, if_neg ne10, gI_n hk (by decide), nI_clamp (by omega), hc, if_neg (show ¬ nI 1 = (0 : Int32) by decide), if_pos (show nI 1 = (1 : Int32) from rfl)]
theorem L60_c2 (N k e : Nat) (mb hd nu co si gu : Nat → Int32) (dec fai : Int32) (re mv mt : Nat → Int32) (n : Nat) (at' : Int32) (came bx sg rw : Nat → Int32) {m : Nat} (hm : m < 16) (hk : k < 16) (hc : co k = nI 2) : d_Mod_open_L60 N (nI k) mb hd nu co si gu (n + 1) dec fai at' (nI e) (nI m) 0 re mv mt came bx sg rw = (d_Mod_divided N at' (nI e) (nI m) 0 mb came).bind (fun o61008 => d_Mod_open_L60 N (nI k) mb hd nu co si gu n dec fai o61008.1 (nI e) o61008.2.1 o61008.2.2.1 re mv mt o61008.2.2.2 bx sg rw) := by
  rw [d_Mod_open_L60, goes_run N hm, Option.bind_some, if_neg ne10, gI_n hk (by decide), nI_clamp (by omega), hc, if_neg (show ¬ nI 2 = (0 : Int32) by decide), if_neg (show ¬ nI 2 = (1 : Int32) by decide), if_pos (show nI 2 = (2 : Int32) from rfl)]
theorem L60_c3 (N k e : Nat) (mb hd nu co si gu : Nat → Int32) (dec fai : Int32) (re mv mt : Nat → Int32) (n : Nat) (at' : Int32) (came bx sg rw : Nat → Int32) {m : Nat} (hm : m < 16) (hk : k < 16) (hc : co k = nI 3) : d_Mod_open_L60 N (nI k) mb hd nu co si gu (n + 1) dec fai at' (nI e) (nI m) 0 re mv mt came bx sg rw = (d_Mod_boxed N at' (nI e) (nI m) 0 mb came bx sg rw).bind (fun o61012 => d_Mod_open_L60 N (nI k) mb hd nu co si gu n dec fai o61012.1 (nI e) o61012.2.1 o61012.2.2.1 re mv mt o61012.2.2.2.1 o61012.2.2.2.2.1 o61012.2.2.2.2.2.1 o61012.2.2.2.2.2.2) := by
  rw [d_Mod_open_L60, goes_run N hm, Option.bind_some, if_neg ne10, gI_n hk (by decide), nI_clamp (by omega), hc, if_neg (show ¬ nI 3 = (0 : Int32) by decide), if_neg (show ¬ nI 3 = (1 : Int32) by decide), if_neg (show ¬ nI 3 = (2 : Int32) by decide), if_pos (show nI 3 = (3 : Int32) from rfl)]
theorem L60_c4 (N k e : Nat) (mb hd nu co si gu : Nat → Int32) (dec fai : Int32) (re mv mt : Nat → Int32) (n : Nat) (at' : Int32) (came bx sg rw : Nat → Int32) {m : Nat} (hm : m < 16) (hk : k < 16) (hc : co k = nI 4) : d_Mod_open_L60 N (nI k) mb hd nu co si gu (n + 1) dec fai at' (nI e) (nI m) 0 re mv mt came bx sg rw = (d_Mod_differing N at' (nI e) (nI m) 0 mb came).bind (fun o61008 => d_Mod_open_L60 N (nI k) mb hd nu co si gu n dec fai o61008.1 (nI e) o61008.2.1 o61008.2.2.1 re mv mt o61008.2.2.2 bx sg rw) := by
  rw [d_Mod_open_L60, goes_run N hm, Option.bind_some, if_neg ne10, gI_n hk (by decide), nI_clamp (by omega), hc, if_neg (show ¬ nI 4 = (0 : Int32) by decide), if_neg (show ¬ nI 4 = (1 : Int32) by decide), if_neg (show ¬ nI 4 = (2 : Int32) by decide), if_neg (show ¬ nI 4 = (3 : Int32) by decide)]
theorem p_c0 {N k e : Nat} {mb hd nu co si gu : Nat → Int32} {dec fai : Int32} {re mv mt : Nat → Int32} (hN : 300 ≤ N) {b z : Nat} (hz : z ≤ 64) (he : e = b + z) (he2 : e ≤ 1200) (hk : k < 16) {dt : Nat → Int32} (hD : RelD b z dt mb) (bx sg rw : Nat → Int32) (hc : co k = nI 0) : ∀ (q i m n1 n2 : Nat) (made came : Nat → Int32), i + q = z → q < n1 → q + 1 < n2 → m ≤ 16 → RelM m made came → ∃ (w : Nat) (c' at' mn' : Int32) (made' came' : Nat → Int32), w ≤ 6 ∧ (w = 0 → RelM 16 made' came') ∧ ((d_Dec_copyBytes_L2 N (nI z) dt n1 (nI i) (nI m) made).bind (fun s2 => (d_Dec_atEnd N s2.1).bind (fun o1 => some (o1, s2.1, s2.2)))) = some (nI w, c', made') ∧ d_Mod_open_L60 N (nI k) mb hd nu co si gu n2 dec fai (nI (b + i)) (nI e) (nI m) 0 re mv mt came bx sg rw = some (dec, fai, at', nI e, mn', nI w, re, mv, mt, came', bx, sg, rw) := by
  intro q
  induction q with
  | zero =>
    intro i m n1 n2 made came hi h1 h2 hm hR
    obtain ⟨n1, rfl⟩ : ∃ q, n1 = q + 1 := ⟨n1 - 1, by omega⟩
    obtain ⟨n2, rfl⟩ : ∃ q, n2 = q + 2 := ⟨n2 - 2, by omega⟩
    obtain rfl : i = z := by omega
    rw [d_Dec_copyBytes_L2, if_pos (show nI i ≤ nI i from nI_le (Nat.le_refl _) (by omega)), Option.bind_some]
    dsimp only
    by_cases h16 : m = 16
    · subst h16
      rw [end_yes, L60_full]
      exact ⟨0, _, _, _, _, _, by omega, fun _ => hR, rfl, rfl⟩
    · rw [end_no N (by omega), L60_c0 N k e mb hd nu co si gu dec fai re mv mt (n2 + 1) _ came bx sg rw (m := m) (by omega) hk hc, ← he, take_end, Option.bind_some, Option.bind_some]
      rw [give_bad N _ _ ne10, Option.bind_some, L60_bad N k e mb hd nu co si gu dec fai re mv mt n2 _ _ ne10]
      exact ⟨1, _, _, _, _, _, by omega, fun e => absurd e (by omega), rfl, rfl⟩
  | succ q ih =>
    intro i m n1 n2 made came hi h1 h2 hm hR
    obtain ⟨n1, rfl⟩ : ∃ q, n1 = q + 1 := ⟨n1 - 1, by omega⟩
    obtain ⟨n2, rfl⟩ : ∃ q, n2 = q + 2 := ⟨n2 - 2, by omega⟩
    rw [d_Dec_copyBytes_L2, if_neg (show ¬ nI z ≤ nI i from nI_ge (by omega) (by omega))]
    by_cases h16 : m = 16
    · subst h16
      rw [full_yes, Option.bind_some, if_neg ne10, Option.bind_some]
      dsimp only
      rw [end_yes, L60_full]
      exact ⟨0, _, _, _, _, _, by omega, fun _ => hR, rfl, rfl⟩
    · obtain ⟨v, hv, e1, e2⟩ := hD i (by omega)
      rw [full_no N (by omega), Option.bind_some, if_pos rfl, gI_n (by omega) (by decide), nI_clamp (by omega), e1, add_ok N _ (by omega), Option.bind_some, L60_c0 N k e mb hd nu co si gu dec fai re mv mt (n2 + 1) _ came bx sg rw (m := m) (by omega) hk hc, take_ok N (by omega) he2, Option.bind_some]
      dsimp only
      rw [e2, give_ok N _ (by omega), Option.bind_some, nI_1]
      exact ih (i + 1) (m + 1) n1 (n2 + 1) _ _ (by omega) (by omega) (by omega) (by omega) (RelM_add hR hv)
theorem rep_bad (N : Nat) (a b' e : Int32) (mb : Nat → Int32) {n : Nat} (hn : 0 < n) (at' mn : Int32) (came : Nat → Int32) : d_Mod_repeated_L28 N a b' e mb n 0 at' mn 1 came = some (at', mn, 1, came) := by
  obtain ⟨n, rfl⟩ : ∃ q, n = q + 1 := ⟨n - 1, by omega⟩
  rw [d_Mod_repeated_L28, goes_bad N mn ne10, Option.bind_some, if_pos rfl, ite_self]
theorem rep_loop (N : Nat) {i v u : Nat} (hi : i + 1 < 64) (size e : Int32) (mb : Nat → Int32) {dt : Nat → Int32} (hv : v < 256) (hu : u < 256) (e1 : dt i = nI v) (e2 : dt (i + 1) = nI u) (at' : Int32) : ∀ (q j m n1 n2 : Nat) (made came : Nat → Int32), j + q = v → m + q ≤ 16 → q < n1 → q < n2 → RelM m made came → ∃ made' came' : Nat → Int32, RelM (m + q) made' came' ∧ d_Dec_repeatValues_L42 N (nI i) size dt n1 (nI j) (nI m) made = some (nI (m + q), made') ∧ d_Mod_repeated_L28 N (nI v) (nI u) e mb n2 (nI j) at' (nI m) 0 came = some (at', nI (m + q), 0, came') := by
  intro q
  induction q with
  | zero =>
    intro j m n1 n2 made came hj hm h1 h2 hR
    obtain ⟨n1, rfl⟩ : ∃ q, n1 = q + 1 := ⟨n1 - 1, by omega⟩
    obtain ⟨n2, rfl⟩ : ∃ q, n2 = q + 1 := ⟨n2 - 1, by omega⟩
    obtain rfl : j = v := by omega
    have hc : nI j ≤ nI j := nI_le (Nat.le_refl _) (by omega)
    exact ⟨made, came, hR, by rw [d_Dec_repeatValues_L42, gI_n (by omega) (by decide), nI_clamp (by omega), e1, if_pos hc]; rfl, by rw [d_Mod_repeated_L28, if_pos hc]; rfl⟩
  | succ q ih =>
    intro j m n1 n2 made came hj hm h1 h2 hR
    obtain ⟨n1, rfl⟩ : ∃ q, n1 = q + 1 := ⟨n1 - 1, by omega⟩
    obtain ⟨n2, rfl⟩ : ∃ q, n2 = q + 1 := ⟨n2 - 1, by omega⟩
    have hc : ¬ nI v ≤ nI j := nI_ge (by omega) (by omega)
    obtain ⟨made', came', f1, f2, f3⟩ := ih (j + 1) (m + 1) n1 n2 (upd made m (nI u)) (upd came m (nI u)) (by omega) (by omega) (by omega) (by omega) (RelM_add hR hu)
    rw [show m + 1 + q = m + (q + 1) by omega] at f1 f2 f3
    refine ⟨made', came', f1, ?_, ?_⟩
    · rw [d_Dec_repeatValues_L42, gI_n (by omega) (by decide), nI_clamp (by omega), e1, if_neg hc, a1, gI_n (by omega) (by decide), nI_clamp (by omega), e2, add_ok N _ (by omega), Option.bind_some, nI_1]
      exact f2
    · rw [d_Mod_repeated_L28, if_neg hc, goes_run N (by omega), Option.bind_some, if_neg ne10, give_ok N _ (by omega), Option.bind_some, nI_1]
      exact f3
theorem rep_short {N b z e i m : Nat} (hN : 300 ≤ N) (he : e = b + z) (he2 : e ≤ 1200) {dt mb : Nat → Int32} (hD : RelD b z dt mb) (hi : i ≤ z) (hz : z ≤ i + 1) (hm : m < 16) (came : Nat → Int32) : ∃ at' : Int32, d_Mod_repeated N (nI (b + i)) (nI e) (nI m) 0 mb came = some (at', nI m, 1, came) := by
  unfold d_Mod_repeated
  by_cases h : i = z
  · subst h
    rw [← he, take_end, Option.bind_some]
    dsimp only
    rw [take_bad, Option.bind_some]
    dsimp only
    rw [if_pos (show nI m + (0 : Int32) ≤ 16 from by rw [show nI m + (0 : Int32) = nI m from nI_add m 0]; exact nI_le (b := 16) (by omega) (by decide)), rep_bad N _ _ _ _ (by omega), Option.bind_some]
    exact ⟨_, rfl⟩
  · rw [take_ok N (by omega) he2, Option.bind_some]
    dsimp only
    rw [show b + i + 1 = e by omega, take_end, Option.bind_some]
    dsimp only
    rw [rep_bad N _ _ _ _ (by omega), Option.bind_some]
    refine ⟨nI e, ?_⟩
    by_cases c : nI m + mb (b + i) ≤ (16 : Int32)
    · rw [if_pos c]
    · rw [if_neg c]
      show ((d_Mod_repeated_L28 N _ _ _ _ N 0 _ _ 1 came).bind _) = _
      rw [rep_bad N _ _ _ _ (by omega)]
      rfl
theorem p_c1 {N k e : Nat} {mb hd nu co si gu : Nat → Int32} {dec fai : Int32} {re mv mt : Nat → Int32} (hN : 300 ≤ N) {b z : Nat} (hz : z ≤ 64) (he : e = b + z) (he2 : e ≤ 1200) (hk : k < 16) {dt : Nat → Int32} (hD : RelD b z dt mb) (bx sg rw : Nat → Int32) (hc : co k = nI 1) : ∀ (q i m n1 n2 : Nat) (made came : Nat → Int32), i + q = z → q < n1 → q + 1 < n2 → m ≤ 16 → RelM m made came → ∃ (w : Nat) (c' at' mn' : Int32) (made' came' : Nat → Int32), w ≤ 6 ∧ (w = 0 → RelM 16 made' came') ∧ d_Dec_repeatValues_L2 N (nI z) dt n1 (nI i) (nI m) made = some (nI w, c', made') ∧ d_Mod_open_L60 N (nI k) mb hd nu co si gu n2 dec fai (nI (b + i)) (nI e) (nI m) 0 re mv mt came bx sg rw = some (dec, fai, at', nI e, mn', nI w, re, mv, mt, came', bx, sg, rw) := by
  intro q
  induction q using Nat.strongRecOn with
  | ind q ih =>
    intro i m n1 n2 made came hi h1 h2 hm hR
    obtain ⟨n1, rfl⟩ : ∃ q, n1 = q + 1 := ⟨n1 - 1, by omega⟩
    obtain ⟨n2, rfl⟩ : ∃ q, n2 = q + 2 := ⟨n2 - 2, by omega⟩
    rw [d_Dec_repeatValues_L2, a1]
    by_cases h16 : m = 16
    · subst h16
      rw [end_yes, full_yes, L60_full, Option.bind_some, Option.bind_some, if_neg ne10, ite_self]
      exact ⟨0, _, _, _, _, _, by omega, fun _ => hR, rfl, rfl⟩
    have hm' : m < 16 := by omega
    rw [end_no N hm', full_no N hm', Option.bind_some, Option.bind_some, if_pos (show (0 : Int32) = 0 from rfl), L60_c1 N k e mb hd nu co si gu dec fai re mv mt (n2 + 1) _ came bx sg rw (m := m) hm' hk hc]
    by_cases hs : z ≤ i + 1
    · obtain ⟨at2, ha⟩ := rep_short (N := N) (b := b) (z := z) (e := e) (i := i) (m := m) hN he he2 hD (by omega) hs hm' came
      rw [if_pos (show nI z ≤ nI (i + 1) from nI_le hs (by omega)), ha, Option.bind_some]
      dsimp only
      rw [L60_bad N k e mb hd nu co si gu dec fai re mv mt n2 _ _ ne10]
      exact ⟨1, _, _, _, _, _, by omega, fun e => absurd e (by omega), rfl, rfl⟩
    rw [if_neg (show ¬ nI z ≤ nI (i + 1) from nI_ge (by omega) (by omega)), gI_n (by omega) (by decide), nI_clamp (by omega)]
    obtain ⟨v, hv, e1, f1⟩ := hD i (by omega)
    obtain ⟨u, hu, e2, f2⟩ := hD (i + 1) (by omega)
    rw [show b + (i + 1) = b + i + 1 from rfl] at f2
    have sub : (16 : Int32) - nI m = nI (16 - m) := pk_sub (a := 16) (by omega)
    unfold d_Mod_repeated
    rw [take_ok N (show b + i < e by omega) he2, Option.bind_some]
    dsimp only
    rw [take_ok N (show b + i + 1 < e by omega) he2, Option.bind_some]
    dsimp only
    rw [e1, f1, f2, sub, nI_add]
    by_cases hv2 : v ≤ 16 - m
    · obtain ⟨made', came', g1, g2, g3⟩ := rep_loop N (i := i) (v := v) (u := u) (by omega) (nI z) (nI e) mb hv hu e1 e2 (nI (b + i + 1 + 1)) v 0 m N N made came (by omega) (by omega) (by omega) (by omega) hR
      rw [E0] at g2 g3
      rw [if_pos (show nI v ≤ nI (16 - m) from nI_le hv2 (by omega)), if_pos (show nI (m + v) ≤ (16 : Int32) from nI_le (b := 16) (by omega) (by decide)), g2, g3, Option.bind_some, Option.bind_some, Option.bind_some]
      rw [show nI i + (2 : Int32) = nI (i + 2) from nI_add i 2]
      exact ih (q - 2) (by omega) (i + 2) (m + v) n1 (n2 + 1) _ _ (by omega) (by omega) (by omega) (by omega) g1
    · rw [if_neg (show ¬ nI v ≤ nI (16 - m) from nI_ge (by omega) (by omega)), if_neg (show ¬ nI (m + v) ≤ (16 : Int32) from nI_ge (b := m + v) (a := 16) (by omega) (by omega) |> fun h => fun h2 => absurd ((nI_leI (b := 16) (by omega) (by decide)).mp h2) (by omega))]
      rw [show d_Mod_fail N 1 0 = some 1 from rfl, Option.bind_some, rep_bad N _ _ _ _ (by omega), Option.bind_some, Option.bind_some]
      dsimp only
      rw [L60_bad N k e mb hd nu co si gu dec fai re mv mt n2 _ _ ne10]
      exact ⟨1, _, _, _, _, _, by omega, fun e => absurd e (by omega), rfl, rfl⟩
theorem div_short {N b z e i m : Nat} (he : e = b + z) (he2 : e ≤ 1200) (hi : i ≤ z) (hz : z ≤ i + 1) (mb came : Nat → Int32) : ∃ at' : Int32, d_Mod_divided N (nI (b + i)) (nI e) (nI m) 0 mb came = some (at', nI m, 1, came) := by
  unfold d_Mod_divided
  by_cases h : i = z
  · subst h
    rw [← he, take_end, Option.bind_some]
    dsimp only
    rw [take_bad, Option.bind_some]
    exact ⟨_, rfl⟩
  · rw [take_ok N (by omega) he2, Option.bind_some]
    dsimp only
    rw [show b + i + 1 = e by omega, take_end, Option.bind_some]
    exact ⟨_, rfl⟩
theorem p_c2 {N k e : Nat} {mb hd nu co si gu : Nat → Int32} {dec fai : Int32} {re mv mt : Nat → Int32} (hN : 300 ≤ N) {b z : Nat} (hz : z ≤ 64) (he : e = b + z) (he2 : e ≤ 1200) (hk : k < 16) {dt : Nat → Int32} (hD : RelD b z dt mb) (bx sg rw : Nat → Int32) (hc : co k = nI 2) : ∀ (q i m n1 n2 : Nat) (made came : Nat → Int32), i + q = z → q < n1 → q + 1 < n2 → m ≤ 16 → RelM m made came → ∃ (w : Nat) (c' at' mn' : Int32) (made' came' : Nat → Int32), w ≤ 6 ∧ (w = 0 → RelM 16 made' came') ∧ d_Dec_divide_L2 N (nI z) dt n1 (nI i) (nI m) made = some (nI w, c', made') ∧ d_Mod_open_L60 N (nI k) mb hd nu co si gu n2 dec fai (nI (b + i)) (nI e) (nI m) 0 re mv mt came bx sg rw = some (dec, fai, at', nI e, mn', nI w, re, mv, mt, came', bx, sg, rw) := by
  intro q
  induction q using Nat.strongRecOn with
  | ind q ih =>
    intro i m n1 n2 made came hi h1 h2 hm hR
    obtain ⟨n1, rfl⟩ : ∃ q, n1 = q + 1 := ⟨n1 - 1, by omega⟩
    obtain ⟨n2, rfl⟩ : ∃ q, n2 = q + 2 := ⟨n2 - 2, by omega⟩
    rw [d_Dec_divide_L2, a1]
    by_cases h16 : m = 16
    · subst h16
      rw [end_yes, full_yes, L60_full, Option.bind_some, Option.bind_some, if_neg ne10, ite_self]
      exact ⟨0, _, _, _, _, _, by omega, fun _ => hR, rfl, rfl⟩
    have hm' : m < 16 := by omega
    rw [end_no N hm', full_no N hm', Option.bind_some, Option.bind_some, if_pos (show (0 : Int32) = 0 from rfl), L60_c2 N k e mb hd nu co si gu dec fai re mv mt (n2 + 1) _ came bx sg rw (m := m) hm' hk hc]
    by_cases hs : z ≤ i + 1
    · obtain ⟨at2, ha⟩ := div_short (N := N) (b := b) (z := z) (e := e) (i := i) (m := m) he he2 (by omega) hs mb came
      rw [if_pos (show nI z ≤ nI (i + 1) from nI_le hs (by omega)), ha, Option.bind_some]
      dsimp only
      rw [L60_bad N k e mb hd nu co si gu dec fai re mv mt n2 _ _ ne10]
      exact ⟨1, _, _, _, _, _, by omega, fun e => absurd e (by omega), rfl, rfl⟩
    rw [if_neg (show ¬ nI z ≤ nI (i + 1) from nI_ge (by omega) (by omega)), gI_n (show i + 1 < 64 by omega) (by decide), gI_n (show i < 64 by omega) (by decide), nI_clamp (show i < 2 ^ 31 by omega), nI_clamp (show i + 1 < 2 ^ 31 by omega)]
    obtain ⟨v, hv, e1, f1⟩ := hD i (by omega)
    obtain ⟨u, hu, e2, f2⟩ := hD (i + 1) (by omega)
    rw [show b + (i + 1) = b + i + 1 from rfl] at f2
    unfold d_Mod_divided
    rw [take_ok N (show b + i < e by omega) he2, Option.bind_some]
    dsimp only
    rw [take_ok N (show b + i + 1 < e by omega) he2, Option.bind_some]
    dsimp only
    rw [e1, e2, f1, f2]
    by_cases hu0 : u = 0
    · subst hu0
      rw [if_pos E0, if_pos E0, show d_Mod_fail N 2 0 = some 2 from rfl, Option.bind_some, if_pos E0, give_bad N _ _ (show ¬ (2 : Int32) = 0 by decide), Option.bind_some, Option.bind_some]
      dsimp only
      rw [L60_bad N k e mb hd nu co si gu dec fai re mv mt n2 _ _ (show ¬ (2 : Int32) = 0 by decide)]
      exact ⟨2, _, _, _, _, _, by omega, fun e => absurd e (by omega), rfl, rfl⟩
    · have c : ¬ nI u = (0 : Int32) := fun q => hu0 ((eq0 (by omega)).mp q)
      have dv : (16 : Int32) * nI v / nI u - (16 : Int32) * nI v / nI u / (256 : Int32) * (256 : Int32) = nI (16 * v / u % 256) := by
        have q1 : (16 : Int32) * nI v / nI u = nI (16 * v / u) := by
          rw [show (16 : Int32) * nI v = nI (16 * v) from pk_mul 16 v, pk_div (by omega) (by omega) (by omega)]
        rw [q1]
        exact pk_rem (d := 256) (Nat.lt_of_le_of_lt (Nat.div_le_self _ _) (by omega)) (by decide) (by decide)
      have gz : ∀ {α : Type} (X : Option α), gZ (nI u) X = X := fun X => if_neg c
      rw [if_neg c, if_neg c, if_neg c, gz, gz, dv, add_ok N _ hm', give_ok N _ hm', Option.bind_some, Option.bind_some, Option.bind_some]
      dsimp only
      rw [show nI i + (2 : Int32) = nI (i + 2) from nI_add i 2]
      exact ih (q - 2) (by omega) (i + 2) (m + 1) n1 (n2 + 1) _ _ (by omega) (by omega) (by omega) (by omega) (RelM_add hR (Nat.mod_lt _ (by decide)))
theorem dif_short {N e m : Nat} (hm : m < 16) (mb came : Nat → Int32) : d_Mod_differing N (nI e) (nI e) (nI m) 0 mb came = some (nI e, nI m, 1, came) := by
  unfold d_Mod_differing
  rw [take_end, Option.bind_some]
  dsimp only
  have f : d_Mod_fail N 6 1 = some 1 := rfl
  have g : ∀ x : Int32, d_Mod_give N x (nI m) 1 came = some (nI m, came) := fun x => give_bad N x _ ne10 came
  simp only [f, g, Option.bind_some, ite_self]
  by_cases h : nI m = (0 : Int32)
  · rw [if_pos h]
  · have h1 : m ≠ 0 := fun e => h ((eq0 (by omega)).mpr e)
    rw [if_neg h, s1 (by omega), gI_n (by omega) (by decide)]
theorem p_c4 {N k e : Nat} {mb hd nu co si gu : Nat → Int32} {dec fai : Int32} {re mv mt : Nat → Int32} (hN : 300 ≤ N) {b z : Nat} (hz : z ≤ 64) (he : e = b + z) (he2 : e ≤ 1200) (hk : k < 16) {dt : Nat → Int32} (hD : RelD b z dt mb) (bx sg rw : Nat → Int32) (hc : co k = nI 4) : ∀ (q m n1 n2 : Nat) (made came : Nat → Int32), m + q = z → q < n1 → q + 1 < n2 → m ≤ 16 → RelM m made came → ∃ (w : Nat) (c' at' mn' : Int32) (made' came' : Nat → Int32), w ≤ 6 ∧ (w = 0 → RelM 16 made' came') ∧ d_Dec_addDifferences_L2 N (nI z) dt n1 (nI m) (nI m) made = some (nI w, c', made') ∧ d_Mod_open_L60 N (nI k) mb hd nu co si gu n2 dec fai (nI (b + m)) (nI e) (nI m) 0 re mv mt came bx sg rw = some (dec, fai, at', nI e, mn', nI w, re, mv, mt, came', bx, sg, rw) := by
  intro q
  induction q with
  | zero =>
    intro m n1 n2 made came hi h1 h2 hm hR
    obtain ⟨n1, rfl⟩ : ∃ q, n1 = q + 1 := ⟨n1 - 1, by omega⟩
    obtain ⟨n2, rfl⟩ : ∃ q, n2 = q + 2 := ⟨n2 - 2, by omega⟩
    obtain rfl : m = z := by omega
    rw [d_Dec_addDifferences_L2, if_pos (show nI m ≤ nI m from nI_le (Nat.le_refl _) (by omega))]
    by_cases h16 : m = 16
    · subst h16
      rw [end_yes, L60_full]
      exact ⟨0, _, _, _, _, _, by omega, fun _ => hR, rfl, rfl⟩
    · rw [end_no N (by omega), L60_c4 N k e mb hd nu co si gu dec fai re mv mt (n2 + 1) _ came bx sg rw (m := m) (by omega) hk hc, ← he, dif_short (by omega), Option.bind_some, Option.bind_some]
      rw [L60_bad N k e mb hd nu co si gu dec fai re mv mt n2 _ _ ne10]
      exact ⟨1, _, _, _, _, _, by omega, fun e => absurd e (by omega), rfl, rfl⟩
  | succ q ih =>
    intro m n1 n2 made came hi h1 h2 hm hR
    obtain ⟨n1, rfl⟩ : ∃ q, n1 = q + 1 := ⟨n1 - 1, by omega⟩
    obtain ⟨n2, rfl⟩ : ∃ q, n2 = q + 2 := ⟨n2 - 2, by omega⟩
    rw [d_Dec_addDifferences_L2, if_neg (show ¬ nI z ≤ nI m from nI_ge (by omega) (by omega))]
    by_cases h16 : m = 16
    · subst h16
      rw [full_yes, Option.bind_some, if_neg ne10, end_yes, L60_full]
      exact ⟨0, _, _, _, _, _, by omega, fun _ => hR, rfl, rfl⟩
    have hm' : m < 16 := by omega
    obtain ⟨v, hv, e1, e2⟩ := hD m (by omega)
    rw [full_no N hm', Option.bind_some, if_pos (show (0 : Int32) = 0 from rfl), L60_c4 N k e mb hd nu co si gu dec fai re mv mt (n2 + 1) _ came bx sg rw (m := m) hm' hk hc]
    unfold d_Mod_differing
    rw [take_ok N (show b + m < e by omega) he2, Option.bind_some]
    dsimp only
    rw [e2]
    have fin : ∀ (s : Int32), ∃ (w : Nat) (c' at' mn' : Int32) (made' came' : Nat → Int32), w ≤ 6 ∧ (w = 0 → RelM 16 made' came') ∧ (if s < 0 then some ((6 : Int32), nI m, made) else if s ≤ (255 : Int32) then (d_Dec_add N s (nI m) made).bind (fun o => d_Dec_addDifferences_L2 N (nI z) dt n1 (nI m + 1) o.1 o.2) else some ((6 : Int32), nI m, made)) = some (nI w, c', made') ∧ ((if s < 0 then (d_Mod_fail N (6 : Int32) 0).bind (fun o6 => (d_Mod_give N s (nI m) o6 came).bind (fun o7 => some (nI (b + m + 1), o7.1, o6, o7.2))) else if s ≤ (255 : Int32) then (d_Mod_give N s (nI m) 0 came).bind (fun o9 => some (nI (b + m + 1), o9.1, 0, o9.2)) else (d_Mod_fail N (6 : Int32) 0).bind (fun o10 => (d_Mod_give N s (nI m) o10 came).bind (fun o11 => some (nI (b + m + 1), o11.1, o10, o11.2)))).bind (fun o61008 => d_Mod_open_L60 N (nI k) mb hd nu co si gu (n2 + 1) dec fai o61008.1 (nI e) o61008.2.1 o61008.2.2.1 re mv mt o61008.2.2.2 bx sg rw)) = some (dec, fai, at', nI e, mn', nI w, re, mv, mt, came', bx, sg, rw) := fun s => by
      have f : d_Mod_fail N 6 0 = some 6 := rfl
      have h6 : ¬ (6 : Int32) = 0 := by decide
      rw [f, Option.bind_some, give_bad N _ _ h6, Option.bind_some, give_ok N _ hm', add_ok N _ hm', Option.bind_some, Option.bind_some]
      dsimp only
      by_cases c1 : s < 0
      · rw [if_pos c1, if_pos c1, Option.bind_some]
        dsimp only
        rw [L60_bad N k e mb hd nu co si gu dec fai re mv mt n2 _ _ h6]
        exact ⟨6, _, _, _, _, _, by omega, fun e => absurd e (by omega), rfl, rfl⟩
      rw [if_neg c1, if_neg c1]
      by_cases c2 : s ≤ (255 : Int32)
      · obtain ⟨y, hy, rfl⟩ := nI_of2 (n := 255) (M := 255) (by decide) c1 c2
        rw [if_pos c2, if_pos c2, Option.bind_some, nI_1]
        exact ih (m + 1) n1 (n2 + 1) _ _ (by omega) (by omega) (by omega) (by omega) (RelM_add hR (by omega))
      · rw [if_neg c2, if_neg c2, Option.bind_some]
        dsimp only
        rw [L60_bad N k e mb hd nu co si gu dec fai re mv mt n2 _ _ h6]
        exact ⟨6, _, _, _, _, _, by omega, fun e => absurd e (by omega), rfl, rfl⟩
    by_cases hm0 : m = 0
    · subst hm0
      rw [if_pos E0, if_pos E0, z0, e1]
      exact fin (nI v)
    have cm : ¬ nI m = (0 : Int32) := fun q => hm0 ((eq0 (by omega)).mp q)
    rw [if_neg cm, if_neg cm]
    unfold d_Dec_sampleBefore d_Dec_signed
    rw [if_neg (show ¬ nI m ≤ (0 : Int32) from fun q => hm0 (by have := (le0 (by omega)).mp q; omega)), s1 (by omega), gI_n (show m - 1 < 16 by omega) (by decide), gI_n (show m - 1 < 16 by omega) (by decide), nI_clamp (show m - 1 < 2 ^ 31 by omega), Option.bind_some, gI_n (show m < 64 by omega) (by decide), nI_clamp (show m < 2 ^ 31 by omega), e1]
    obtain ⟨x, hx, x1, x2⟩ := hR (m - 1) (by omega)
    rw [x1, x2]
    by_cases hv2 : v ≤ 127
    · rw [if_neg (show ¬ (128 : Int32) ≤ nI v from nI_ge (a := v) (b := 128) (by omega) (by decide)), if_pos (show nI v ≤ (127 : Int32) from nI_le (b := 127) hv2 (by decide)), Option.bind_some]
      exact fin (nI x + nI v)
    · rw [if_pos (show (128 : Int32) ≤ nI v from nI_le (a := 128) (by omega) (by omega)), if_neg (show ¬ nI v ≤ (127 : Int32) from nI_ge (a := 127) (by omega) (by omega)), Option.bind_some]
      exact fin (nI x + (nI v - (256 : Int32)))

