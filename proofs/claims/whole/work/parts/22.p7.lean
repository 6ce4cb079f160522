/-! pure: the guess, the look at a place, the run -/
theorem p_guess_L (N : Nat) {kd bc p : Nat} (hk : kd ≤ 2) (hb : bc ≤ 1200) (st pt : Int32) {cb mb : Nat → Int32} (hR : RelB cb mb) (hd nu co si gu re : Nat → Int32) : ∀ (k i n1 n2 : Nat) (t : Int32), i + k = 64 → p + 6 + i ≤ bc → k < n1 → k < n2 → ∃ (z : Nat) (t' : Int32), z ≤ 64 ∧ p + 6 + z ≤ bc ∧ d_MR_guessSize_L2 N (nI (p + 6)) (nI kd) st (nI bc) cb n1 (nI i) t = some (nI z, t') ∧ d_Mod_guess_L2 N (nI p) (nI kd) st (nI bc) mb n2 (nI i) pt t hd nu co si gu re = some (nI z, pt, t', hd, nu, co, si, gu, re) := by
  intro k
  induction k with
  | zero =>
    intro i n1 n2 t hi hp h1 h2
    obtain ⟨n1, rfl⟩ : ∃ z, n1 = z + 1 := ⟨n1 - 1, by omega⟩
    obtain ⟨n2, rfl⟩ : ∃ z, n2 = z + 1 := ⟨n2 - 1, by omega⟩
    obtain rfl : i = 64 := by omega
    have hc : (64 : Int32) ≤ nI 64 := nI_le (a := 64) (b := 64) (Nat.le_refl _) (by decide)
    exact ⟨64, t, by omega, hp, by rw [d_MR_guessSize_L2, if_pos hc], by rw [d_Mod_guess_L2, if_pos hc]⟩
  | succ k ih =>
    intro i n1 n2 t hi hp h1 h2
    obtain ⟨n1, rfl⟩ : ∃ z, n1 = z + 1 := ⟨n1 - 1, by omega⟩
    obtain ⟨n2, rfl⟩ : ∃ z, n2 = z + 1 := ⟨n2 - 1, by omega⟩
    have hc : ¬ (64 : Int32) ≤ nI i := nI_ge (a := i) (b := 64) (by omega) (by decide)
    rw [d_MR_guessSize_L2, if_neg hc, d_Mod_guess_L2, if_neg hc, a6, nI_add]
    by_cases hs : st ≤ t
    · rw [if_pos hs, if_pos hs]
      exact ⟨i, t, by omega, hp, rfl, rfl⟩
    rw [if_neg hs, if_neg hs]
    by_cases he : bc ≤ p + 6 + i
    · have c1 : nI bc ≤ nI (p + 6 + i) := nI_le he (by omega)
      rw [if_pos c1, if_pos c1]
      exact ⟨i, t, by omega, hp, rfl, rfl⟩
    have c1 : ¬ nI bc ≤ nI (p + 6 + i) := nI_ge (by omega) (by omega)
    rw [if_neg c1, if_neg c1]
    obtain ⟨r, hr, m1, m2, -⟩ := p_mark N (kd := kd) (bc := bc) (p := p + 6 + i) hk hb (by omega) hR
    rw [m1, m2, Option.bind_some, Option.bind_some]
    rcases (show r = 0 ∨ r = 1 by omega) with rfl | rfl
    · rw [if_pos E0, if_pos E0, nI_1]
      exact ih (i + 1) n1 n2 (t + 1) (by omega) (by omega) (by omega) (by omega)
    · have c2 : ¬ nI 1 = (0 : Int32) := by decide
      rw [if_neg c2, if_neg c2]
      exact ⟨i, t, by omega, hp, rfl, rfl⟩
theorem q_guess {N : Nat} (hN : 300 ≤ N) {kd bc p pn : Nat} (hk : kd ≤ 2) (hb : bc ≤ 1200) (hp : p + 6 ≤ bc) (h1 : 1 ≤ pn) (hpn : pn < 16) (st t : Int32) {cb mb : Nat → Int32} (hR : RelB cb mb) {P : Nat → Nat → Int32} {hd nu co si gu re : Nat → Int32} (hP : RelP pn bc P hd nu co si gu re) : ∃ (p' : Nat) (t' : Int32) (P' : Nat → Nat → Int32) (hd' nu' co' si' gu' re' : Nat → Int32), p < p' ∧ p' ≤ bc ∧ RelP (pn + 1) bc P' hd' nu' co' si' gu' re' ∧ d_MR_guessPart N (nI p) (nI kd) st (nI bc) (nI pn) t cb P = some (nI p', nI (pn + 1), t', P') ∧ d_Mod_guess N (nI p) (nI kd) st (nI bc) (nI pn) t mb hd nu co si gu re = some (nI p', nI (pn + 1), t', hd', nu', co', si', gu', re') := by
  obtain ⟨z, t', hz, hz2, g1, g2⟩ := p_guess_L N (kd := kd) (bc := bc) (p := p) hk hb st (nI pn) hR hd nu co si gu re 64 0 N N t (by omega) (by omega) (by omega) (by omega)
  obtain ⟨h, n, c, z0, g, b1, b2, b3, b4, b5, -, ⟨q1, m1⟩, ⟨q2, m2⟩, -, -, -⟩ := hP (pn - 1) (by omega)
  have k1 : d_MR_keepPart N (nI p) (nI ((n + 1) % 16)) (nI c) (nI z) (1 : Int32) (nI pn) P = _ := p_keep N hpn p ((n + 1) % 16) c z 1 P
  have k2 : d_Mod_add N (nI p) (nI ((n + 1) % 16)) (nI c) (nI z) (1 : Int32) (nI pn) hd nu co si gu re = _ := p_add N hpn p ((n + 1) % 16) c z 1 (by omega) hd nu co si gu re
  refine ⟨p + 6 + z, t', _, _, _, _, _, _, _, by omega, hz2, RelP_add hP (p := p) (n := (n + 1) % 16) (c := c) (z := z) (g := 1) hz2 (Nat.mod_lt _ (by decide)) b3 hz (by omega), ?_, ?_⟩
  · unfold d_MR_guessPart d_MR_guessSize
    rw [s1 (by omega), gI_n (by omega) (by decide), nI_clamp (by omega), z1', z2', q1, q2, a1, e16 (by omega), a6]
    rw [show (0 : Int32) = nI 0 from rfl]
    rw [g1, Option.bind_some, Option.bind_some]
    rw [k1, Option.bind_some]
  · unfold d_Mod_guess
    rw [show (0 : Int32) = nI 0 from rfl]
    rw [g2, Option.bind_some]
    dsimp only
    rw [s1 (by omega), gI_n (by omega) (by decide), nI_clamp (by omega), m1, m2, a1, e16 (by omega), k2, Option.bind_some, a6, nI_add]
theorem h_head (N : Nat) {kd bc p : Nat} (hk : kd ≤ 2) (hb : bc ≤ 1200) (hp : p < bc) {cb mb : Nat → Int32} (hR : RelB cb mb) : ∃ r h : Nat, r ≤ 1 ∧ h ≤ 1 ∧ d_MR_markStandsAt N (nI p) (nI kd) (nI bc) cb = some (nI r) ∧ d_Mod_isHead N (nI p) (nI kd) (nI bc) mb = some (nI h) ∧ (h = 1 → r = 1 ∧ p + 6 ≤ bc) ∧ (h = 0 → r = 0 ∨ bc < p + 6) := by
  obtain ⟨r, hr, m1, m2, -⟩ := p_mark N (kd := kd) (bc := bc) (p := p) hk hb (by omega) hR
  unfold d_Mod_isHead
  rw [m1, m2, Option.bind_some, a6]
  rcases (show r = 0 ∨ r = 1 by omega) with rfl | rfl
  · exact ⟨0, 0, by omega, by omega, rfl, by rw [if_pos E0]; rfl, fun e => absurd e (by omega), fun _ => Or.inl rfl⟩
  · have c2 : ¬ nI 1 = (0 : Int32) := by decide
    rw [if_neg c2]
    by_cases h6 : bc < p + 6
    · exact ⟨1, 0, by omega, by omega, rfl, by rw [if_pos (nI_lt h6 (by omega))]; rfl, fun e => absurd e (by omega), fun _ => Or.inr h6⟩
    · exact ⟨1, 1, by omega, by omega, rfl, by rw [if_neg (fun e => h6 ((nI_ltI (by omega) (by omega)).mp e))]; rfl, fun _ => ⟨rfl, by omega⟩, fun e => absurd e (by omega)⟩
theorem p_look {N : Nat} (hN : 300 ≤ N) {kd bc p pn : Nat} (hk : kd ≤ 2) (hb : bc ≤ 1200) (hp : p < bc) (hpn : pn < 16) (st t thr ran lck : Int32) (hst : ¬ st ≤ t) {cb mb : Nat → Int32} (hR : RelB cb mb) {P : Nat → Nat → Int32} {hd nu co si gu re : Nat → Int32} (mt : Nat → Int32) (hP : RelP pn bc P hd nu co si gu re) (n : Nat) : ∃ (p' pn' : Nat) (t' : Int32) (P' : Nat → Nat → Int32) (hd' nu' co' si' gu' re' : Nat → Int32), p < p' ∧ p' ≤ bc ∧ pn' ≤ 16 ∧ RelP pn' bc P' hd' nu' co' si' gu' re' ∧ d_MR_lookAt N (nI p) (nI kd) st (nI bc) (nI pn) (t + (1 : Int32)) cb P = some (nI p', nI pn', t', P') ∧ d_Mod_run_L39 N (nI kd) st (nI bc) mb (n + 1) (nI p) thr ran (nI pn) t lck hd nu co si gu re mt = d_Mod_run_L39 N (nI kd) st (nI bc) mb n (nI p') thr ran (nI pn') t' lck hd' nu' co' si' gu' re' mt := by
  obtain ⟨r, h, hr, hh, m1, m2, hq1, hq0⟩ := h_head N (kd := kd) (bc := bc) (p := p) hk hb hp hR
  have cp : ¬ nI bc ≤ nI p := nI_ge (by omega) (by omega)
  have c16 : ¬ (16 : Int32) ≤ nI pn := nI_ge (a := pn) (b := 16) (by omega) (by decide)
  have e0 : ¬ nI 1 = (0 : Int32) := by decide
  rw [d_Mod_run_L39, if_neg cp, if_neg hst, if_neg c16, m2, Option.bind_some]
  unfold d_MR_lookAt
  rw [m1, Option.bind_some, a6]
  rcases (show h = 0 ∨ h = 1 by omega) with rfl | rfl
  · rw [if_pos E0, Option.bind_some, if_pos E0]
    refine ⟨p + 1, pn, t + 1, P, hd, nu, co, si, gu, re, by omega, by omega, by omega, hP, ?_, ?_⟩
    · rcases hq0 rfl with rfl | h6
      · rw [if_pos E0, a1]
      · rcases (show r = 0 ∨ r = 1 by omega) with rfl | rfl
        · rw [if_pos E0, a1]
        · rw [if_neg e0, if_neg (show ¬ nI (p + 6) ≤ nI bc from nI_ge h6 (by omega)), a1]
    · rw [nI_1]
  obtain ⟨rfl, h6⟩ := hq1 rfl
  obtain ⟨v2, v3, v4, r1, r2, w2, w3, w4, ⟨u2, x2⟩, ⟨u3, x3⟩, ⟨u4, x4⟩, hr1, hr2, g1, g2, g3, gr, gd⟩ := p_right N (bc := bc) (p := p) hb h6 hR
  rw [if_neg e0, if_neg e0, if_pos (show nI (p + 6) ≤ nI bc from nI_le h6 (by omega)), g1, Option.bind_some, g3, Option.bind_some]
  have guess : r1 = 0 ∨ r2 = 0 → ∃ (p' pn' : Nat) (t' : Int32) (P' : Nat → Nat → Int32) (hd' nu' co' si' gu' re' : Nat → Int32), p < p' ∧ p' ≤ bc ∧ pn' ≤ 16 ∧ RelP pn' bc P' hd' nu' co' si' gu' re' ∧ (if nI pn ≤ 0 then some (nI p + (1 : Int32), nI pn, t + (1 : Int32), P) else (d_MR_guessPart N (nI p) (nI kd) st (nI bc) (nI pn) (t + (1 : Int32)) cb P).bind (fun o7 => some (o7.1, o7.2.1, o7.2.2.1, o7.2.2.2))) = some (nI p', nI pn', t', P') ∧ (if nI pn ≤ 0 then d_Mod_run_L39 N (nI kd) st (nI bc) mb n (nI p + 1) thr ran (nI pn) (t + (1 : Int32)) lck hd nu co si gu re mt else (d_Mod_guess N (nI p) (nI kd) st (nI bc) (nI pn) (t + (1 : Int32)) mb hd nu co si gu re).bind (fun o => d_Mod_run_L39 N (nI kd) st (nI bc) mb n o.1 thr ran o.2.1 o.2.2.1 lck o.2.2.2.1 o.2.2.2.2.1 o.2.2.2.2.2.1 o.2.2.2.2.2.2.1 o.2.2.2.2.2.2.2.1 o.2.2.2.2.2.2.2.2 mt)) = d_Mod_run_L39 N (nI kd) st (nI bc) mb n (nI p') thr ran (nI pn') t' lck hd' nu' co' si' gu' re' mt := fun _ => by
    by_cases h0 : pn = 0
    · have c0 : nI pn ≤ 0 := (le0 (by omega)).mpr (by omega)
      rw [if_pos c0, if_pos c0]
      exact ⟨p + 1, pn, t + 1, P, hd, nu, co, si, gu, re, by omega, by omega, by omega, hP, by rw [nI_1], by rw [nI_1]⟩
    · have c0 : ¬ nI pn ≤ 0 := fun e => h0 (by have := (le0 (by omega)).mp e; omega)
      rw [if_neg c0, if_neg c0]
      obtain ⟨p', t', P', hd', nu', co', si', gu', re', f1, f2, f3, f4, f5⟩ := q_guess hN (kd := kd) (bc := bc) (p := p) (pn := pn) hk hb h6 (by omega) hpn st (t + 1) hR hP
      exact ⟨p', pn + 1, t', P', hd', nu', co', si', gu', re', f1, f2, by omega, f3, by rw [f4, Option.bind_some], by rw [f5, Option.bind_some]⟩
  rcases (show r1 = 0 ∨ r1 = 1 by omega) with rfl | rfl
  · rw [if_pos E0, if_pos (show (0 : Nat) = 0 from rfl), if_pos E0, Option.bind_some, if_neg e0]
    exact guess (Or.inl rfl)
  rw [if_neg e0, if_neg (show ¬ (1 : Nat) = 0 by omega), g2, Option.bind_some]
  rcases (show r2 = 0 ∨ r2 = 1 by omega) with rfl | rfl
  · rw [if_pos E0, if_pos E0, Option.bind_some, if_neg e0]
    exact guess (Or.inr rfl)
  rw [if_neg e0, if_neg e0, a2, a3, a4]
  rw [gI_n (show p + 2 < 1200 by omega) (by decide), gI_n (show p + 3 < 1200 by omega) (by decide), gI_n (show p + 4 < 1200 by omega) (by decide)]
  rw [gI_n (show p + 2 < 1200 by omega) (by decide), gI_n (show p + 3 < 1200 by omega) (by decide), gI_n (show p + 4 < 1200 by omega) (by decide)]
  rw [nI_clamp (show p + 2 < 2 ^ 31 by omega), nI_clamp (show p + 3 < 2 ^ 31 by omega), nI_clamp (show p + 4 < 2 ^ 31 by omega), u2, u3, u4, x2, x3, x4]
  obtain ⟨y2, y3, y4⟩ := gr rfl
  have hz := gd rfl
  have k1 : d_MR_keepPart N (nI p) (nI v2) (nI v3) (nI v4) (0 : Int32) (nI pn) P = _ := p_keep N hpn p v2 v3 v4 0 P
  have k2 : d_Mod_add N (nI p) (nI v2) (nI v3) (nI v4) (0 : Int32) (nI pn) hd nu co si gu re = _ := p_add N hpn p v2 v3 v4 0 (by omega) hd nu co si gu re
  refine ⟨p + 6 + v4, pn + 1, t + 1, _, _, _, _, _, _, _, by omega, hz, by omega, RelP_add hP (p := p) (n := v2) (c := v3) (z := v4) (g := 0) hz (by omega) y3 y4 (by omega), ?_, ?_⟩
  · rw [k1, Option.bind_some]
  · rw [k2, Option.bind_some]
    rw [show nI (pn + 1) - (1 : Int32) = nI pn from by rw [s1 (by omega)]; rfl, gI_n (by omega) (by decide), nI_clamp (by omega)]
    dsimp only
    rw [upd_at, nI_add]
theorem p_run_L {N : Nat} (hN : 300 ≤ N) {kd bc : Nat} (hk : kd ≤ 2) (hb : bc ≤ 1200) (st thr ran lck hr lk : Int32) {cb mb : Nat → Int32} (hR : RelB cb mb) (v t mt : Nat → Int32) : ∀ (k p pn n1 n2 : Nat) (tk : Int32) (P : Nat → Nat → Int32) (hd nu co si gu re : Nat → Int32), p + k = bc → k < n1 → k < n2 → pn ≤ 16 → RelP pn bc P hd nu co si gu re → ∃ (p' pn' : Nat) (t' : Int32) (P' : Nat → Nat → Int32) (hd' nu' co' si' gu' re' : Nat → Int32), p' ≤ bc ∧ pn' ≤ 16 ∧ RelP pn' bc P' hd' nu' co' si' gu' re' ∧ d_MR_run_L18 N (nI kd) st (nI bc) cb n1 (nI p) (nI pn) tk hr lk v t P = some (nI p', nI pn', t', hr, lk, v, t, P') ∧ d_Mod_run_L39 N (nI kd) st (nI bc) mb n2 (nI p) thr ran (nI pn) tk lck hd nu co si gu re mt = some (nI p', thr, ran, nI pn', t', lck, hd', nu', co', si', gu', re', mt) := by
  intro k
  induction k using Nat.strongRecOn with
  | ind k ih =>
    intro p pn n1 n2 tk P hd nu co si gu re hp h1 h2 hpn hP
    obtain ⟨n1, rfl⟩ : ∃ z, n1 = z + 1 := ⟨n1 - 1, by omega⟩
    obtain ⟨n2, rfl⟩ : ∃ z, n2 = z + 1 := ⟨n2 - 1, by omega⟩
    have stop : (st ≤ tk ∨ bc ≤ p ∨ 16 ≤ pn) → d_MR_run_L18 N (nI kd) st (nI bc) cb (n1 + 1) (nI p) (nI pn) tk hr lk v t P = some (nI p, nI pn, tk, hr, lk, v, t, P) ∧ d_Mod_run_L39 N (nI kd) st (nI bc) mb (n2 + 1) (nI p) thr ran (nI pn) tk lck hd nu co si gu re mt = some (nI p, thr, ran, nI pn, tk, lck, hd, nu, co, si, gu, re, mt) := fun h => by
      rw [d_MR_run_L18, d_Mod_run_L39]
      by_cases s1 : st ≤ tk
      · simp only [if_pos s1, ite_self, and_self]
      by_cases s2 : bc ≤ p
      · have c : nI bc ≤ nI p := nI_le s2 (by omega)
        simp only [if_pos c, if_neg s1, and_self]
      have c : ¬ nI bc ≤ nI p := nI_ge (by omega) (by omega)
      have h16 : 16 ≤ pn := by
        rcases h with h | h | h
        · exact absurd h s1
        · exact absurd h s2
        · exact h
      have s3 : (16 : Int32) ≤ nI pn := nI_le (a := 16) h16 (by omega)
      simp only [if_neg c, if_neg s1, if_pos s3, and_self]
    by_cases s : st ≤ tk ∨ bc ≤ p ∨ 16 ≤ pn
    · obtain ⟨e1, e2⟩ := stop s
      exact ⟨p, pn, tk, P, hd, nu, co, si, gu, re, by omega, hpn, hP, e1, e2⟩
    have g1 : ¬ st ≤ tk := fun e => s (Or.inl e)
    have g2 : p < bc := Nat.not_le.mp fun e => s (Or.inr (Or.inl e))
    have g3 : pn < 16 := Nat.not_le.mp fun e => s (Or.inr (Or.inr e))
    obtain ⟨p', pn', t', P', hd', nu', co', si', gu', re', f1, f2, f3, f4, f5, f6⟩ := p_look hN (kd := kd) (bc := bc) (p := p) (pn := pn) hk hb g2 g3 st tk thr ran lck g1 hR mt hP n2
    rw [f6, d_MR_run_L18, if_neg g1, if_neg (show ¬ nI bc ≤ nI p from nI_ge (by omega) (by omega)), if_neg (show ¬ (16 : Int32) ≤ nI pn from nI_ge (a := pn) (b := 16) (by omega) (by decide)), f5, Option.bind_some]
    exact ih (bc - p') (by omega) p' pn' n1 n2 t' P' hd' nu' co' si' gu' re' (by omega) (by omega) (by omega) f3 f4
theorem p_run7 (N : Nat) (a b c : Int32) (mb : Nat → Int32) (b1 b2 b3 b4 b5 : Int32) (f1 f2 f3 f4 f5 f6 : Nat → Int32) : ∀ (k i n : Nat) (t : Nat → Int32), i + k = 256 → k < n → d_Mod_run_L7 N a b c mb n (nI i) b1 b2 b3 b4 b5 f1 f2 f3 f4 f5 f6 t = some (b1, b2, b3, b4, b5, f1, f2, f3, f4, f5, f6, setB t i 0) := by
  intro k
  induction k with
  | zero =>
    intro i n t hi hn
    obtain ⟨n, rfl⟩ : ∃ q, n = q + 1 := ⟨n - 1, by omega⟩
    obtain rfl : i = 256 := by omega
    rw [d_Mod_run_L7, if_pos (show (256 : Int32) ≤ nI 256 from nI_le (Nat.le_refl _) (by decide)), setB_end]
  | succ k ih =>
    intro i n t hi hn
    obtain ⟨n, rfl⟩ : ∃ q, n = q + 1 := ⟨n - 1, by omega⟩
    rw [d_Mod_run_L7, if_neg (n256 (by omega)), gI_n (by omega) (by decide), nI_clamp (by omega), nI_1, ih (i + 1) n _ (by omega) (by omega), setB_step t (by omega)]
theorem q_run {N : Nat} (hN : 1300 ≤ N) {kd bc : Nat} (hk : kd ≤ 2) (hb : bc ≤ 1200) (st thr ran lck hr lk pc tk mp mtk : Int32) {cb mb : Nat → Int32} (hR : RelB cb mb) (v t mt : Nat → Int32) (P : Nat → Nat → Int32) (hd nu co si gu re : Nat → Int32) : ∃ (pn' lk' : Nat) (t' : Int32) (P' : Nat → Nat → Int32) (hd' nu' co' si' gu' re' : Nat → Int32), pn' ≤ 16 ∧ lk' ≤ 1 ∧ RelP pn' bc P' hd' nu' co' si' gu' re' ∧ d_MR_run N (nI kd) st (nI bc) pc tk hr lk cb v t P = some (nI pn', nI pn', t', 1, nI lk', setB v 0 (-1), setB t 0 0, P') ∧ d_Mod_run N thr (nI kd) st (nI bc) ran mp mtk lck mb hd nu co si gu re mt = some (nI pn', 0, 1, nI pn', t', nI lk', hd', nu', co', si', gu', re', setB mt 0 0) := by
  obtain ⟨p', pn', t', P', hd', nu', co', si', gu', re', f1, f2, f3, f4, f5⟩ := p_run_L (N := N) (by omega) (kd := kd) (bc := bc) hk hb st 0 ran lck 0 lk hR (setB v 0 (-1)) (setB t 0 0) (setB mt 0 0) bc 0 0 N N 0 P hd nu co si gu re (by omega) (by omega) (by omega) (by omega) RelP_0
  have r7 := p_run7 N (nI kd) st (nI bc) mb 0 ran mp mtk lck hd nu co si gu re 256 0 N mt (by omega) (by omega)
  rw [E0] at f4 f5 r7
  unfold d_MR_run d_Mod_run d_MR_forgetParts
  rw [p_forgetAll (by omega), r7]
  simp only [Option.bind_some]
  rw [f4, f5]
  simp only [Option.bind_some]
  by_cases h1 : bc ≤ p'
  · have c : nI bc ≤ nI p' := nI_le h1 (by omega)
    exact ⟨pn', 0, t', P', hd', nu', co', si', gu', re', f2, by omega, f3, by rw [if_pos c]; rfl, by rw [if_pos c]; rfl⟩
  have c : ¬ nI bc ≤ nI p' := nI_ge (by omega) (by omega)
  by_cases h2 : 16 ≤ pn'
  · have c2 : (16 : Int32) ≤ nI pn' := nI_le (a := 16) h2 (by omega)
    exact ⟨pn', 0, t', P', hd', nu', co', si', gu', re', f2, by omega, f3, by rw [if_neg c, if_pos c2]; rfl, by rw [if_neg c, if_pos c2]; rfl⟩
  have c2 : ¬ (16 : Int32) ≤ nI pn' := nI_ge (a := pn') (b := 16) (by omega) (by decide)
  exact ⟨pn', 1, t', P', hd', nu', co', si', gu', re', f2, by omega, f3, by rw [if_neg c, if_neg c2]; rfl, by rw [if_neg c, if_neg c2]; rfl⟩

