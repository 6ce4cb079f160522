/-! pure: the relation between the class and the reference; the calls that are short -/
def RelB (cb mb : Nat → Int32) : Prop := ∀ j : Nat, j < 1200 → ∃ v : Nat, v < 256 ∧ cb j = nI v ∧ mb j = nI v
def RelP (pn bc : Nat) (P : Nat → Nat → Int32) (hd nu co si gu re : Nat → Int32) : Prop := ∀ k : Nat, k < pn → ∃ h n c z g : Nat, h + 6 + z ≤ bc ∧ n < 16 ∧ c ≤ 4 ∧ z ≤ 64 ∧ g ≤ 1 ∧ (P k 0 = nI h ∧ hd k = nI h) ∧ (P k 1 = nI n ∧ nu k = nI n) ∧ (P k 2 = nI c ∧ co k = nI c) ∧ (P k 3 = nI z ∧ si k = nI z) ∧ (P k 4 = nI g ∧ gu k = nI g) ∧ P k 5 = re k
theorem RelP_0 {bc : Nat} {P : Nat → Nat → Int32} {hd nu co si gu re : Nat → Int32} : RelP 0 bc P hd nu co si gu re := fun k h => absurd h (Nat.not_lt_zero k)
theorem RelB_upd {cb mb : Nat → Int32} (h : RelB cb mb) (k : Nat) {v : Nat} (hv : v < 256) : RelB (upd cb k (nI v)) (upd mb k (nI v)) := fun j hj => by
  by_cases e : j = k
  · subst e
    exact ⟨v, hv, upd_at _ _ _, upd_at _ _ _⟩
  · rw [upd_ne _ _ e, upd_ne _ _ e]
    exact h j hj
theorem ge_of_nlt {x y : Int32} (h : ¬ x < y) : y ≤ x := by
  rw [Int32.le_iff_toInt_le]
  have := mt Int32.lt_iff_toInt_lt.mpr h
  omega
theorem gt_of_nle {x y : Int32} (h : ¬ x ≤ y) : y < x := by
  rw [Int32.lt_iff_toInt_lt]
  have := mt Int32.le_iff_toInt_le.mpr h
  omega
theorem exB_ok' {α β : Type} (v : α) (k : α → Option (Except String β)) : exB (.ok v) k = k v := rfl
theorem exC_ok' {α β : Type} (v : α) (h : String → Option β) (k : α → Option β) : exC (.ok v) h k = k v := rfl
theorem z0 : (0 : Int32).toNatClampNeg = 0 := by decide
theorem out0 (f : Nat → Int64) (x : Int64) : vp_updL f (0 : Int32).toNatClampNeg x (0 : Int32).toNatClampNeg = x := pk_uLs
theorem cmp0 (x : Int64) : lg_cmp x x = 0 := by
  have h : ¬ x < x := fun h => by
    have := Int64.lt_iff_toInt_lt.mp h
    omega
  simp [lg_cmp]
/-- the answer that came out, and the reference's, are compared so -/
theorem ans0 (f : Nat → Int64) (x : Int32) : lg_cmp (vp_updL f (0 : Int32).toNatClampNeg x.toInt64 (0 : Int32).toNatClampNeg) x.toInt64 = 0 := by rw [out0]; exact cmp0 _
theorem q_at (N : Nat) (x thr : Int32) {v t mv mt : Nat → Int32} (f : Nat → Int64) (hR : RelS v t mv mt) : ∃ (k b : Int32) (f' : Nat → Int64), d_Law_at N x v f = some (k, f') ∧ d_Mod_at N x thr mv mt = some (b, k) ∧ (k = 0 → lg_cmp (f' (0 : Int32).toNatClampNeg) b.toInt64 = 0) := by
  unfold d_Law_at d_MR_at d_MR_requireSample d_Mod_at
  by_cases h1 : x < 0
  · rw [if_pos h1, if_pos h1]
    exact ⟨1, 0, f, rfl, rfl, fun h => absurd h (by decide)⟩
  · rw [if_neg h1, if_neg h1]
    by_cases h2 : x < (256 : Int32)
    · obtain ⟨j, hj, rfl⟩ := nI_of_lt (n := 256) (by decide) h1 h2
      have h3 : ¬ (256 : Int32) ≤ nI j := n256 hj
      obtain ⟨q, hq, e1, e2, e3⟩ := hR j hj
      rw [if_pos h2, if_neg h3, Option.bind_some]
      rw [exB_ok', gI_n hj (by decide), gI_n hj (by decide), nI_clamp (by omega), e2, Option.bind_some]
      rcases e3 with ⟨hq0, ev⟩ | ⟨hq0, y, hy, ev, em⟩
      · rw [if_pos ((eq0 (by omega)).mpr hq0), ev]
        exact ⟨0, -1, _, rfl, rfl, fun _ => ans0 f (-1)⟩
      · rw [if_neg (fun e => hq0 ((eq0 (by omega)).mp e)), ev, em]
        exact ⟨0, nI y, _, rfl, rfl, fun _ => ans0 f (nI y)⟩
    · have h3 : (256 : Int32) ≤ x := ge_of_nlt h2
      rw [if_neg h2, if_pos h3]
      exact ⟨1, 0, f, rfl, rfl, fun h => absurd h (by decide)⟩
theorem q_state (N : Nat) (x thr : Int32) {v t mv mt : Nat → Int32} (f : Nat → Int64) (hR : RelS v t mv mt) : ∃ (k b : Int32) (f' : Nat → Int64), d_Law_state N x t f = some (k, f') ∧ d_Mod_state N x thr mt = some (b, k) ∧ (k = 0 → lg_cmp (f' (0 : Int32).toNatClampNeg) b.toInt64 = 0) := by
  unfold d_Law_state d_MR_state d_MR_requireSample d_Mod_state
  by_cases h1 : x < 0
  · rw [if_pos h1, if_pos h1]
    exact ⟨1, 0, f, rfl, rfl, fun h => absurd h (by decide)⟩
  · rw [if_neg h1, if_neg h1]
    by_cases h2 : x < (256 : Int32)
    · obtain ⟨j, hj, rfl⟩ := nI_of_lt (n := 256) (by decide) h1 h2
      have h3 : ¬ (256 : Int32) ≤ nI j := n256 hj
      obtain ⟨q, hq, e1, e2, -⟩ := hR j hj
      rw [if_pos h2, if_neg h3, Option.bind_some]
      rw [exB_ok', gI_n hj (by decide), gI_n hj (by decide), nI_clamp (by omega), e1, e2, Option.bind_some]
      exact ⟨0, nI q, _, rfl, rfl, fun _ => ans0 f (nI q)⟩
    · have h3 : (256 : Int32) ≤ x := ge_of_nlt h2
      rw [if_neg h2, if_pos h3]
      exact ⟨1, 0, f, rfl, rfl, fun h => absurd h (by decide)⟩
theorem q_fill {N : Nat} (hN : 300 ≤ N) (x thr : Int32) {v t mv mt : Nat → Int32} (f : Nat → Int64) (hR : RelS v t mv mt) : ∃ (k b : Int32) (v' t' mv' mt' : Nat → Int32) (f' : Nat → Int64), d_Law_fill N x v t f = some (k, v', t', f') ∧ d_Mod_fill N x thr mv mt = some (b, k, mv', mt') ∧ (k = 0 → lg_cmp (f' (0 : Int32).toNatClampNeg) b.toInt64 = 0) ∧ RelS v' t' mv' mt' := by
  unfold d_Law_fill d_MR_fill d_Mod_fill
  by_cases h1 : x < 0
  · rw [if_pos h1, if_pos h1, p_fill_none N x (by omega)]
    exact ⟨1, 0, v, t, mv, mt, f, rfl, rfl, fun h => absurd h (by decide), hR⟩
  · rw [if_neg h1, if_neg h1]
    by_cases h2 : x ≤ (2 : Int32)
    · have h3 : ¬ (2 : Int32) < x := by
        rw [Int32.lt_iff_toInt_lt]
        have := Int32.le_iff_toInt_le.mp h2
        omega
      obtain ⟨r, hr, rfl⟩ := nI_of2 (n := 2) (M := 2) (by decide) h1 h2
      obtain ⟨c', v', t', mv', mt', g1, g2, g3⟩ := p_fill_L N r hr 256 0 N N 0 v t mv mt (by omega) (by omega) (by omega) hR (fun j hj => absurd hj (Nat.not_lt_zero j))
      rw [if_pos h2, if_neg h3]
      unfold d_Map_fillUntold
      rw [show (0 : Int32) = nI 0 from rfl] at g1 g2 ⊢
      rw [g1, g2]
      exact ⟨0, c', v', t', mv', mt', _, rfl, rfl, fun _ => ans0 f c', g3⟩
    · have h3 : (2 : Int32) < x := gt_of_nle h2
      rw [if_neg h2, if_pos h3, p_fill_none N x (by omega)]
      exact ⟨1, 0, v, t, mv, mt, f, rfl, rfl, fun h => absurd h (by decide), hR⟩
theorem q_told {N : Nat} (hN : 300 ≤ N) (x thr a1 a2 a3 a4 a5 a7 a8 : Int32) {lk : Nat} (hl : lk ≤ 1) {v t mv mt : Nat → Int32} (hR : RelS v t mv mt) : ∃ r : Int32, d_MR_told N x a1 a2 a3 a4 a5 (nI lk) a7 a8 t = some r ∧ d_Mod_told N x thr a1 a2 a3 a4 a5 (nI lk) a7 a8 mt = some (r, 0) := by
  obtain ⟨c, c1, c2⟩ := p_sure hN hR
  unfold d_MR_told d_Mod_told
  rw [c1, c2]
  by_cases h0 : x = 0
  · rw [if_pos h0, if_pos h0]; exact ⟨_, rfl, rfl⟩
  rw [if_neg h0, if_neg h0]
  by_cases h1 : x = 1
  · rw [if_pos h1, if_pos h1]; exact ⟨_, rfl, rfl⟩
  rw [if_neg h1, if_neg h1]
  by_cases h2 : x = 2
  · rw [if_pos h2, if_pos h2]; exact ⟨_, rfl, rfl⟩
  rw [if_neg h2, if_neg h2]
  by_cases h3 : x = 3
  · rw [if_pos h3, if_pos h3]; exact ⟨_, rfl, rfl⟩
  rw [if_neg h3, if_neg h3]
  by_cases h4 : x = 4
  · rw [if_pos h4, if_pos h4]; exact ⟨_, rfl, rfl⟩
  rw [if_neg h4, if_neg h4]
  by_cases h5 : x = 5
  · rw [if_pos h5, if_pos h5]
    by_cases hk : nI lk = 0
    · rw [if_pos hk, if_pos hk]; exact ⟨_, rfl, rfl⟩
    · rw [if_neg hk, if_neg hk]; exact ⟨_, rfl, rfl⟩
  rw [if_neg h5, if_neg h5]
  by_cases h6 : x = 6
  · rw [if_pos h6, if_pos h6]; exact ⟨_, rfl, rfl⟩
  rw [if_neg h6, if_neg h6]
  by_cases h7 : x = 7
  · rw [if_pos h7, if_pos h7]; exact ⟨_, rfl, rfl⟩
  rw [if_neg h7, if_neg h7]
  by_cases h8 : x = 8
  · rw [if_pos h8, if_pos h8]; exact ⟨_, rfl, rfl⟩
  rw [if_neg h8, if_neg h8]
  exact ⟨_, rfl, rfl⟩
theorem q_alter (N : Nat) (x y thr : Int32) {bc : Nat} (hbc : bc ≤ 1200) (a1 a2 m1 m2 : Int32) {cb mb : Nat → Int32} (f : Nat → Int64) (hR : RelB cb mb) : ∃ (k b p1 p2 : Int32) (cb' mb' : Nat → Int32) (f' : Nat → Int64) (n1 n2 : Int32), d_Law_alter N x y (nI bc) a1 a2 cb f = some (k, p1, p2, cb', f') ∧ d_Mod_alter N x y thr (nI bc) m2 m1 mb = some (b, k, n2, n1, mb') ∧ (k = 0 → lg_cmp (f' (0 : Int32).toNatClampNeg) b.toInt64 = 0) ∧ RelB cb' mb' ∧ ((p1 = a1 ∧ p2 = a2 ∧ n1 = m1 ∧ n2 = m2) ∨ (p1 = 0 ∧ p2 = 0 ∧ n1 = 0 ∧ n2 = 0)) := by
  unfold d_Law_alter d_MR_alter d_Mod_alter d_MR_forgetParts d_Mod_lose
  by_cases h1 : x < 0
  · rw [if_pos h1, if_pos h1]
    exact ⟨1, 0, a1, a2, cb, mb, f, m1, m2, rfl, rfl, fun h => absurd h (by decide), hR, Or.inl ⟨rfl, rfl, rfl, rfl⟩⟩
  rw [if_neg h1, if_neg h1]
  by_cases h2 : x < nI bc
  · rw [if_pos h2, if_pos h2]
    by_cases h3 : y < 0
    · rw [if_pos h3, if_pos h3]
      exact ⟨2, 0, a1, a2, cb, mb, f, m1, m2, rfl, rfl, fun h => absurd h (by decide), hR, Or.inl ⟨rfl, rfl, rfl, rfl⟩⟩
    rw [if_neg h3, if_neg h3]
    by_cases h4 : y ≤ (255 : Int32)
    · obtain ⟨j, hj, rfl⟩ := nI_of_lt (by omega) h1 h2
      obtain ⟨v, hv, rfl⟩ := nI_of2 (n := 255) (M := 255) (by decide) h3 h4
      obtain ⟨w, hw, e1, e2⟩ := hR j (by omega)
      rw [if_pos h4, if_pos h4, gI_n (by omega) (by decide), gI_n (by omega) (by decide), nI_clamp (by omega), e1, e2]
      exact ⟨0, nI w, 0, 0, _, _, _, 0, 0, rfl, rfl, fun _ => ans0 f (nI w), RelB_upd hR j (by omega), Or.inr ⟨rfl, rfl, rfl, rfl⟩⟩
    · rw [if_neg h4, if_neg h4]
      exact ⟨2, 0, a1, a2, cb, mb, f, m1, m2, rfl, rfl, fun h => absurd h (by decide), hR, Or.inl ⟨rfl, rfl, rfl, rfl⟩⟩
  · rw [if_neg h2, if_neg h2]
    exact ⟨1, 0, a1, a2, cb, mb, f, m1, m2, rfl, rfl, fun h => absurd h (by decide), hR, Or.inl ⟨rfl, rfl, rfl, rfl⟩⟩

