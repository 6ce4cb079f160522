/-! pure: heads, the keeping of a part, the search -/
theorem a1 (p : Nat) : nI p + (1 : Int32) = nI (p + 1) := nI_add p 1
theorem a2 (p : Nat) : nI p + (2 : Int32) = nI (p + 2) := nI_add p 2
theorem a3 (p : Nat) : nI p + (3 : Int32) = nI (p + 3) := nI_add p 3
theorem a4 (p : Nat) : nI p + (4 : Int32) = nI (p + 4) := nI_add p 4
theorem a5 (p : Nat) : nI p + (5 : Int32) = nI (p + 5) := nI_add p 5
theorem a6 (p : Nat) : nI p + (6 : Int32) = nI (p + 6) := nI_add p 6
theorem z1' : (1 : Int32).toNatClampNeg = 1 := by decide
theorem z2' : (2 : Int32).toNatClampNeg = 2 := by decide
theorem z3' : (3 : Int32).toNatClampNeg = 3 := by decide
theorem z4' : (4 : Int32).toNatClampNeg = 4 := by decide
theorem z5' : (5 : Int32).toNatClampNeg = 5 := by decide
/-- the tests of a head's four bytes, in order; what stands behind them -/
theorem head_test {v2 v3 v4 : Nat} (h2 : v2 < 256) (h3 : v3 < 256) (h4 : v4 < 256) (C : Prop) [Decidable C] : ∃ r1 : Nat, r1 ≤ 1 ∧ (∀ X : Option Int32, (if (15 : Int32) < nI v2 then some (0 : Int32) else if (4 : Int32) < nI v3 then some (0 : Int32) else if (64 : Int32) < nI v4 then some (0 : Int32) else if C then X else some (0 : Int32)) = if r1 = 0 then some 0 else X) ∧ (r1 = 1 → v2 ≤ 15 ∧ v3 ≤ 4 ∧ v4 ≤ 64) := by
  by_cases k2 : 15 < v2
  · exact ⟨0, by omega, fun X => by rw [if_pos (show (15 : Int32) < nI v2 from nI_lt (a := 15) k2 (by omega)), if_pos rfl], fun e => absurd e (by omega)⟩
  have n2 : ¬ (15 : Int32) < nI v2 := fun e => k2 ((nI_ltI (a := 15) (by decide) (by omega)).mp e)
  by_cases k3 : 4 < v3
  · exact ⟨0, by omega, fun X => by rw [if_neg n2, if_pos (show (4 : Int32) < nI v3 from nI_lt (a := 4) k3 (by omega)), if_pos rfl], fun e => absurd e (by omega)⟩
  have n3 : ¬ (4 : Int32) < nI v3 := fun e => k3 ((nI_ltI (a := 4) (by decide) (by omega)).mp e)
  by_cases k4 : 64 < v4
  · exact ⟨0, by omega, fun X => by rw [if_neg n2, if_neg n3, if_pos (show (64 : Int32) < nI v4 from nI_lt (a := 64) k4 (by omega)), if_pos rfl], fun e => absurd e (by omega)⟩
  have n4 : ¬ (64 : Int32) < nI v4 := fun e => k4 ((nI_ltI (a := 64) (by decide) (by omega)).mp e)
  by_cases k5 : C
  · exact ⟨1, by omega, fun X => by rw [if_neg n2, if_neg n3, if_neg n4, if_pos k5, if_neg (by decide)], fun _ => by omega⟩
  · exact ⟨0, by omega, fun X => by rw [if_neg n2, if_neg n3, if_neg n4, if_neg k5, if_pos rfl], fun e => absurd e (by omega)⟩
theorem p_right (N : Nat) {bc p : Nat} (hb : bc ≤ 1200) (hp : p + 6 ≤ bc) {cb mb : Nat → Int32} (hR : RelB cb mb) : ∃ v2 v3 v4 r1 r2 : Nat, v2 < 256 ∧ v3 < 256 ∧ v4 < 256 ∧ (cb (p + 2) = nI v2 ∧ mb (p + 2) = nI v2) ∧ (cb (p + 3) = nI v3 ∧ mb (p + 3) = nI v3) ∧ (cb (p + 4) = nI v4 ∧ mb (p + 4) = nI v4) ∧ r1 ≤ 1 ∧ r2 ≤ 1 ∧ d_MR_headIsRight N (nI p) cb = some (nI r1) ∧ d_MR_dataAreThere N (nI p) (nI bc) cb = some (nI r2) ∧ d_Mod_isRight N (nI p) (nI bc) mb = some (nI (if r1 = 0 then 0 else r2)) ∧ (r1 = 1 → v2 ≤ 15 ∧ v3 ≤ 4 ∧ v4 ≤ 64) ∧ (r2 = 1 → p + 6 + v4 ≤ bc) := by
  obtain ⟨v2, h2, c2, m2⟩ := hR (p + 2) (by omega)
  obtain ⟨v3, h3, c3, m3⟩ := hR (p + 3) (by omega)
  obtain ⟨v4, h4, c4, m4⟩ := hR (p + 4) (by omega)
  obtain ⟨v5, h5, c5, m5⟩ := hR (p + 5) (by omega)
  obtain ⟨r1, hr1, hx, hq⟩ := head_test h2 h3 h4 (nI v5 = ((((((7 : Int32) * (nI v2)) + ((31 : Int32) * (nI v3))) + (nI v4)) + (165 : Int32)) - (((((7 : Int32) * (nI v2)) + ((31 : Int32) * (nI v3))) + (nI v4)) + (165 : Int32)) / (256 : Int32) * (256 : Int32)))
  obtain ⟨r2, hr2, hd, hz⟩ : ∃ r2 : Nat, r2 ≤ 1 ∧ (if nI bc < nI (p + 6) + nI v4 then some (0 : Int32) else some (1 : Int32)) = some (nI r2) ∧ (r2 = 1 → p + 6 + v4 ≤ bc) := by
    rw [nI_add]
    by_cases h : bc < p + 6 + v4
    · exact ⟨0, by omega, by rw [if_pos (nI_lt h (by omega))]; rfl, fun e => absurd e (by omega)⟩
    · exact ⟨1, by omega, by rw [if_neg (fun e => h ((nI_ltI (by omega) (by omega)).mp e))]; rfl, fun _ => by omega⟩
  refine ⟨v2, v3, v4, r1, r2, h2, h3, h4, ⟨c2, m2⟩, ⟨c3, m3⟩, ⟨c4, m4⟩, hr1, hr2, ?_, ?_, ?_, hq, hz⟩
  · unfold d_MR_headIsRight
    rw [a2, a3, a4, a5, gI_n (by omega) (by decide), gI_n (by omega) (by decide), gI_n (by omega) (by decide), gI_n (by omega) (by decide), nI_clamp (show p + 2 < 2 ^ 31 by omega), nI_clamp (show p + 3 < 2 ^ 31 by omega), nI_clamp (show p + 4 < 2 ^ 31 by omega), nI_clamp (show p + 5 < 2 ^ 31 by omega), c2, c3, c4, c5, hx]
    rcases (show r1 = 0 ∨ r1 = 1 by omega) with rfl | rfl
    · rfl
    · rfl
  · unfold d_MR_dataAreThere
    rw [a4, a6, gI_n (by omega) (by decide), nI_clamp (by omega), c4]
    exact hd
  · unfold d_Mod_isRight
    rw [a2, a3, a4, a5, a6, gI_n (by omega) (by decide), gI_n (by omega) (by decide), gI_n (by omega) (by decide), gI_n (by omega) (by decide), nI_clamp (show p + 2 < 2 ^ 31 by omega), nI_clamp (show p + 3 < 2 ^ 31 by omega), nI_clamp (show p + 4 < 2 ^ 31 by omega), nI_clamp (show p + 5 < 2 ^ 31 by omega), m2, m3, m4, m5, hx, hd]
    rcases (show r1 = 0 ∨ r1 = 1 by omega) with rfl | rfl
    · rfl
    · rfl
/-! a part is kept -/
def keepP (P : Nat → Nat → Int32) (pn : Nat) (a b c d e : Int32) : Nat → Nat → Int32 := upd2 (upd2 (upd2 (upd2 (upd2 (upd2 P pn 0 a) pn 1 b) pn 2 c) pn 3 d) pn 4 e) pn 5 (-1)
theorem keepP_ne (P : Nat → Nat → Int32) (pn : Nat) (a b c d e : Int32) {k : Nat} (h : k ≠ pn) : keepP P pn a b c d e k = P k := by
  unfold keepP upd2
  rw [va_up_ne _ _ h, va_up_ne _ _ h, va_up_ne _ _ h, va_up_ne _ _ h, va_up_ne _ _ h, va_up_ne _ _ h]
theorem keepP_at (P : Nat → Nat → Int32) (pn : Nat) (a b c d e : Int32) : keepP P pn a b c d e pn 0 = a ∧ keepP P pn a b c d e pn 1 = b ∧ keepP P pn a b c d e pn 2 = c ∧ keepP P pn a b c d e pn 3 = d ∧ keepP P pn a b c d e pn 4 = e ∧ keepP P pn a b c d e pn 5 = (-1 : Int32) := by
  unfold keepP upd2
  simp only [va_up_self]
  refine ⟨?_, ?_, ?_, ?_, ?_, ?_⟩ <;> simp [upd]
theorem p_keep (N : Nat) {pn : Nat} (hpn : pn < 16) (p n c z g : Nat) (P : Nat → Nat → Int32) : d_MR_keepPart N (nI p) (nI n) (nI c) (nI z) (nI g) (nI pn) P = some (nI (p + 6 + z), nI (pn + 1), keepP P pn (nI p) (nI n) (nI c) (nI z) (nI g)) := by
  unfold d_MR_keepPart
  rw [gI_n hpn (by decide), nI_clamp (by omega), z0, z1', z2', z3', z4', z5', a6, nI_add, a1]
  rfl
theorem narZ : ∀ g : Nat, g ≤ 1 → vp_nar .boolean (nI g) = nI g := fun g hg => by
  rcases (show g = 0 ∨ g = 1 by omega) with rfl | rfl <;> decide
theorem p_add (N : Nat) {pn : Nat} (hpn : pn < 16) (p n c z g : Nat) (hg : g ≤ 1) (hd nu co si gu re : Nat → Int32) : d_Mod_add N (nI p) (nI n) (nI c) (nI z) (nI g) (nI pn) hd nu co si gu re = some (nI (pn + 1), upd hd pn (nI p), upd nu pn (nI n), upd co pn (nI c), upd si pn (nI z), upd gu pn (nI g), upd re pn (-1)) := by
  unfold d_Mod_add
  rw [gI_n hpn (by decide), nI_clamp (by omega), a1, narZ g hg]
theorem RelP_add {pn bc : Nat} {P : Nat → Nat → Int32} {hd nu co si gu re : Nat → Int32} (hR : RelP pn bc P hd nu co si gu re) {p n c z g : Nat} (h1 : p + 6 + z ≤ bc) (h2 : n < 16) (h3 : c ≤ 4) (h4 : z ≤ 64) (h5 : g ≤ 1) : RelP (pn + 1) bc (keepP P pn (nI p) (nI n) (nI c) (nI z) (nI g)) (upd hd pn (nI p)) (upd nu pn (nI n)) (upd co pn (nI c)) (upd si pn (nI z)) (upd gu pn (nI g)) (upd re pn (-1)) := fun k hk => by
  by_cases e : k = pn
  · subst e
    obtain ⟨q0, q1, q2, q3, q4, q5⟩ := keepP_at P k (nI p) (nI n) (nI c) (nI z) (nI g)
    exact ⟨p, n, c, z, g, h1, h2, h3, h4, h5, ⟨q0, upd_at _ _ _⟩, ⟨q1, upd_at _ _ _⟩, ⟨q2, upd_at _ _ _⟩, ⟨q3, upd_at _ _ _⟩, ⟨q4, upd_at _ _ _⟩, by rw [q5, upd_at]⟩
  · rw [keepP_ne P pn _ _ _ _ _ e, upd_ne _ _ e, upd_ne _ _ e, upd_ne _ _ e, upd_ne _ _ e, upd_ne _ _ e, upd_ne _ _ e]
    exact hR k (by omega)

