/-! pure: part; marks and heads -/
theorem q_part (N : Nat) (x y thr : Int32) {pn rn bc : Nat} (hpn : pn ≤ 16) (hrn : rn ≤ 1) {P : Nat → Nat → Int32} {hd nu co si gu re : Nat → Int32} (f : Nat → Int64) (hR : RelP pn bc P hd nu co si gu re) : ∃ (k b : Int32) (f' : Nat → Int64), d_Law_part N x y (nI pn) (nI rn) P f = some (k, f') ∧ d_Mod_part N x y thr (nI rn) (nI pn) hd nu co si gu re = some (b, k) ∧ (k = 0 → lg_cmp (f' (0 : Int32).toNatClampNeg) b.toInt64 = 0) := by
  unfold d_Law_part d_MR_part d_MR_requirePart d_MR_requireRun d_Mod_part d_Mod_partCode
  by_cases h0 : nI rn = 0
  · rw [if_pos h0, if_pos h0]
    exact ⟨1, 0, f, rfl, rfl, fun h => absurd h (by decide)⟩
  rw [if_neg h0, if_neg h0]
  simp only [Option.bind_some, exB_ok']
  by_cases h1 : x < 0
  · rw [if_pos h1, if_pos h1]
    exact ⟨2, 0, f, rfl, rfl, fun h => absurd h (by decide)⟩
  rw [if_neg h1, if_neg h1]
  by_cases h2 : x < nI pn
  · obtain ⟨j, hj, rfl⟩ := nI_of_lt (by omega) h1 h2
    obtain ⟨h, n, c, z, g, b1, b2, b3, b4, b5, ⟨p0, m0⟩, ⟨p1, m1⟩, ⟨p2, m2⟩, ⟨p3, m3⟩, ⟨p4, m4⟩, p5⟩ := hR j hj
    rw [if_pos h2, if_pos h2]
    simp only [Option.bind_some, exB_ok']
    have fin : ∀ (a : Int32) (X : Option (Int32 × Int32)), X = some (a, 0) → ∃ (k b : Int32) (f' : Nat → Int64), ((some (.ok a) : Option (Except String Int32)).bind (fun o1 => exC o1 (fun E => if E = "java/lang/IllegalStateException" then some ((1 : Int32), f) else if E = "java/lang/IndexOutOfBoundsException" then some ((2 : Int32), f) else none) (fun u1 => some ((0 : Int32), vp_updL f (0 : Int32).toNatClampNeg u1.toInt64)))) = some (k, f') ∧ X = some (b, k) ∧ (k = 0 → lg_cmp (f' (0 : Int32).toNatClampNeg) b.toInt64 = 0) := fun a X hX => ⟨0, a, _, rfl, hX, fun _ => ans0 f a⟩
    rw [if_pos (show (0 : Int32) ≤ 0 by decide)]
    by_cases y0 : y < 0
    · rw [if_pos y0]
      refine fin _ _ ?_
      have ne : ∀ w : Int32, ¬ w < 0 → ¬ y = w := fun w hw e => hw (e ▸ y0)
      rw [if_neg (ne 0 (by decide)), if_neg (ne 1 (by decide)), if_neg (ne 2 (by decide)), if_neg (ne 3 (by decide)), if_neg (ne 4 (by decide)), if_neg (ne 5 (by decide))]
    rw [if_neg y0]
    by_cases y6 : (6 : Int32) ≤ y
    · rw [if_pos y6]
      refine fin _ _ ?_
      have ne : ∀ w : Int32, ¬ (6 : Int32) ≤ w → ¬ y = w := fun w hw e => hw (e ▸ y6)
      rw [if_neg (ne 0 (by decide)), if_neg (ne 1 (by decide)), if_neg (ne 2 (by decide)), if_neg (ne 3 (by decide)), if_neg (ne 4 (by decide)), if_neg (ne 5 (by decide))]
    rw [if_neg y6]
    obtain ⟨w, hw, rfl⟩ : ∃ w : Nat, w < 6 ∧ y = nI w := by
      obtain ⟨w, hw, rfl⟩ := nI_of y0
      exact ⟨w, Nat.not_le.mp fun q => y6 (nI_le (a := 6) q hw), rfl⟩
    rw [gI_n (by omega) (by decide), gI_n hw (by decide), nI_clamp (by omega), nI_clamp (by omega)]
    rcases (show w = 0 ∨ w = 1 ∨ w = 2 ∨ w = 3 ∨ w = 4 ∨ w = 5 by omega) with rfl | rfl | rfl | rfl | rfl | rfl
    · rw [p0]
      refine fin _ _ ?_
      rw [if_pos E0, gI_n (by omega) (by decide), m0]
    · rw [p1]
      refine fin _ _ ?_
      rw [if_neg (by decide), if_pos E1, gI_n (by omega) (by decide), m1]
    · rw [p2]
      refine fin _ _ ?_
      rw [if_neg (by decide), if_neg (by decide), if_pos E2, gI_n (by omega) (by decide), m2]
    · rw [p3]
      refine fin _ _ ?_
      rw [if_neg (by decide), if_neg (by decide), if_neg (by decide), if_pos E3, gI_n (by omega) (by decide), m3]
    · rw [p4]
      refine fin _ _ ?_
      rw [if_neg (by decide), if_neg (by decide), if_neg (by decide), if_neg (by decide), if_pos E4, gI_n (by omega) (by decide), m4]
      rcases (show g = 0 ∨ g = 1 by omega) with rfl | rfl
      · rw [if_pos E0]
        rfl
      · rw [if_neg (by decide)]
        rfl
    · rw [p5]
      refine fin _ _ ?_
      rw [if_neg (by decide), if_neg (by decide), if_neg (by decide), if_neg (by decide), if_neg (by decide), if_pos E5, gI_n (by omega) (by decide)]
  · rw [if_neg h2, if_neg h2]
    exact ⟨2, 0, f, rfl, rfl, fun h => absurd h (by decide)⟩
theorem p_mark (N : Nat) {kd bc p : Nat} (hk : kd ≤ 2) (hb : bc ≤ 1200) (hp : p < 4000) {cb mb : Nat → Int32} (hR : RelB cb mb) : ∃ r : Nat, r ≤ 1 ∧ d_MR_markStandsAt N (nI p) (nI kd) (nI bc) cb = some (nI r) ∧ d_Mod_isMark N (nI p) (nI kd) (nI bc) mb = some (nI r) ∧ (r = 1 → p + 1 < bc) := by
  unfold d_MR_markStandsAt d_Mod_isMark
  by_cases h1 : bc ≤ p + 1
  · have c1 : nI bc ≤ nI p + (1 : Int32) := by rw [nI_1]; exact nI_le h1 (by omega)
    refine ⟨0, by omega, ?_, ?_, fun h => absurd h (by omega)⟩
    · rw [if_pos c1]
      rfl
    · simp only [if_pos c1, ite_self]
      rfl
  · have c1 : ¬ nI bc ≤ nI p + (1 : Int32) := by rw [nI_1]; exact nI_ge (by omega) (by omega)
    obtain ⟨v, hv, e1, e2⟩ := hR p (by omega)
    obtain ⟨w, hw, f1, f2⟩ := hR (p + 1) (by omega)
    rw [if_neg c1]
    rw [nI_1] at c1
    simp only [nI_1, if_neg c1]
    rw [gI_n (by omega) (by decide), gI_n (show kd < 3 by omega) (by decide), gI_n (show p + 1 < 1200 by omega) (by decide)]
    rw [nI_clamp (show p < 2 ^ 31 by omega), nI_clamp (show kd < 2 ^ 31 by omega), nI_clamp (show p + 1 < 2 ^ 31 by omega), e1, e2, f1, f2]
    simp only [gI_n (show p < 1200 by omega) (by decide), gI_n (show p + 1 < 1200 by omega) (by decide)]
    have yes : ∀ (A B : Int32), (∃ r : Nat, r ≤ 1 ∧ (if nI v = A then if nI w = B then some (1 : Int32) else some (0 : Int32) else some (0 : Int32)) = some (nI r)) := fun A B => by
      by_cases a : nI v = A
      · by_cases b : nI w = B
        · exact ⟨1, by omega, by rw [if_pos a, if_pos b]; rfl⟩
        · exact ⟨0, by omega, by rw [if_pos a, if_neg b]; rfl⟩
      · exact ⟨0, by omega, by rw [if_neg a]; rfl⟩
    rcases (show kd = 0 ∨ kd = 1 ∨ kd = 2 by omega) with rfl | rfl | rfl
    · obtain ⟨r, hr, er⟩ := yes 255 217
      exact ⟨r, hr, er, by rw [if_pos E0, if_pos E0]; exact er, fun _ => by omega⟩
    · obtain ⟨r, hr, er⟩ := yes 80 65
      exact ⟨r, hr, er, by rw [if_neg (by decide), if_pos E1, if_neg (by decide), if_pos E1]; exact er, fun _ => by omega⟩
    · obtain ⟨r, hr, er⟩ := yes 151 74
      exact ⟨r, hr, er, by rw [if_neg (by decide), if_neg (by decide), if_neg (by decide), if_neg (by decide)]; exact er, fun _ => by omega⟩

