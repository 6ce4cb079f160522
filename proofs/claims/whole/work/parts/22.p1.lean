/-! pure: numbers -/
theorem L0 : (0 : Int32) = nI 0 := rfl
theorem L1 : (1 : Int32) = nI 1 := rfl
theorem L2 : (2 : Int32) = nI 2 := rfl
theorem L3 : (3 : Int32) = nI 3 := rfl
theorem L4 : (4 : Int32) = nI 4 := rfl
theorem L5 : (5 : Int32) = nI 5 := rfl
theorem L6 : (6 : Int32) = nI 6 := rfl
theorem L7 : (7 : Int32) = nI 7 := rfl
theorem L8 : (8 : Int32) = nI 8 := rfl
theorem L15 : (15 : Int32) = nI 15 := rfl
theorem L16 : (16 : Int32) = nI 16 := rfl
theorem L31 : (31 : Int32) = nI 31 := rfl
theorem L64 : (64 : Int32) = nI 64 := rfl
theorem L127 : (127 : Int32) = nI 127 := rfl
theorem L128 : (128 : Int32) = nI 128 := rfl
theorem L165 : (165 : Int32) = nI 165 := rfl
theorem L255 : (255 : Int32) = nI 255 := rfl
theorem L256 : (256 : Int32) = nI 256 := rfl
theorem L1200 : (1200 : Int32) = nI 1200 := rfl
theorem L65536 : (65536 : Int32) = nI 65536 := rfl
theorem E0 : nI 0 = (0 : Int32) := rfl
theorem E1 : nI 1 = (1 : Int32) := rfl
theorem E2 : nI 2 = (2 : Int32) := rfl
theorem E3 : nI 3 = (3 : Int32) := rfl
theorem E4 : nI 4 = (4 : Int32) := rfl
theorem E5 : nI 5 = (5 : Int32) := rfl
theorem E6 : nI 6 = (6 : Int32) := rfl
theorem gI_n {α : Type} {i n : Nat} {k : Option α} (h : i < n) (hn : n < 2 ^ 31) : gI (nI i) n k = k := gI_pos (vp_in_nI h hn)
theorem n256 {i : Nat} (h : i < 256) : ¬ (256 : Int32) ≤ nI i := nI_ge (a := i) (b := 256) h (by decide)
theorem nI_m1 {a : Nat} (h : a < 2 ^ 31) : ¬ nI a = (-1 : Int32) := fun e => by
  have h1 := nI_toInt h
  rw [e] at h1
  have h2 : (-1 : Int32).toInt = -1 := by decide
  omega
theorem nI_m2 {a : Nat} (h : a < 2 ^ 31) : ¬ nI a = (-2 : Int32) := fun e => by
  have h1 := nI_toInt h
  rw [e] at h1
  have h2 : (-2 : Int32).toInt = -2 := by decide
  omega
theorem nI_of_lt {x : Int32} {n : Nat} (hn : n < 2 ^ 31) (h0 : ¬ x < 0) (h : x < nI n) : ∃ j : Nat, j < n ∧ x = nI j := by
  obtain ⟨j, hj, rfl⟩ := nI_of h0
  exact ⟨j, (nI_ltI hj hn).mp h, rfl⟩
theorem upd_at (f : Nat → Int32) (k : Nat) (x : Int32) : upd f k x k = x := if_pos rfl
theorem upd_ne (f : Nat → Int32) {k j : Nat} (x : Int32) (h : j ≠ k) : upd f k x j = f j := if_neg h
/-! forgetAll, clear: every place below 256 is set -/
def setB (f : Nat → Int32) (i : Nat) (x : Int32) : Nat → Int32 := fun j => if i ≤ j ∧ j < 256 then x else f j
theorem setB_step (f : Nat → Int32) {i : Nat} (hi : i < 256) (x : Int32) : setB (upd f i x) (i + 1) x = setB f i x := by
  funext j
  unfold setB upd
  by_cases h1 : i + 1 ≤ j ∧ j < 256
  · rw [if_pos h1, if_pos ⟨by omega, h1.2⟩]
  · rw [if_neg h1]
    by_cases h2 : j = i
    · rw [if_pos h2, if_pos ⟨by omega, by omega⟩]
    · rw [if_neg h2, if_neg (by omega)]
theorem setB_end (f : Nat → Int32) (x : Int32) : setB f 256 x = f := by
  funext j
  unfold setB
  rw [if_neg (by omega)]
theorem p_forgetAll_L (N : Nat) : ∀ (k i n : Nat) (v t : Nat → Int32), i + k = 256 → k < n → d_Map_forgetAll_L2 N n (nI i) v t = some (setB v i (-1), setB t i 0) := by
  intro k
  induction k with
  | zero =>
    intro i n v t hi hn
    obtain ⟨n, rfl⟩ : ∃ q, n = q + 1 := ⟨n - 1, by omega⟩
    obtain rfl : i = 256 := by omega
    rw [d_Map_forgetAll_L2, if_pos (show (256 : Int32) ≤ nI 256 from nI_le (Nat.le_refl _) (by decide)), setB_end, setB_end]
  | succ k ih =>
    intro i n v t hi hn
    obtain ⟨n, rfl⟩ : ∃ q, n = q + 1 := ⟨n - 1, by omega⟩
    rw [d_Map_forgetAll_L2, if_neg (n256 (by omega)), gI_n (by omega) (by decide), nI_clamp (by omega), nI_1, ih (i + 1) n _ _ (by omega) (by omega), setB_step v (by omega), setB_step t (by omega)]
theorem p_forgetAll {N : Nat} (hN : 300 ≤ N) (v t : Nat → Int32) : d_Map_forgetAll N v t = some (setB v 0 (-1), setB t 0 0) := by
  unfold d_Map_forgetAll
  rw [L0, p_forgetAll_L N 256 0 N v t (by omega) (by omega)]
  rfl
theorem p_clear_L (N : Nat) (a1 a2 a3 a4 a5 a6 : Int32) : ∀ (k i n : Nat) (t : Nat → Int32), i + k = 256 → k < n → d_Mod_clear_L26 N n (nI i) a1 a2 a3 a4 a5 a6 t = some (a1, a2, a3, a4, a5, a6, setB t i 0) := by
  intro k
  induction k with
  | zero =>
    intro i n t hi hn
    obtain ⟨n, rfl⟩ : ∃ q, n = q + 1 := ⟨n - 1, by omega⟩
    obtain rfl : i = 256 := by omega
    rw [d_Mod_clear_L26, if_pos (show (256 : Int32) ≤ nI 256 from nI_le (Nat.le_refl _) (by decide)), setB_end]
  | succ k ih =>
    intro i n t hi hn
    obtain ⟨n, rfl⟩ : ∃ q, n = q + 1 := ⟨n - 1, by omega⟩
    rw [d_Mod_clear_L26, if_neg (n256 (by omega)), gI_n (by omega) (by decide), nI_clamp (by omega), nI_1, ih (i + 1) n _ (by omega) (by omega), setB_step t (by omega)]
/-! the samples: states are the same; values where they are told or filled; -1 in the class where not -/
def RelS (v t mv mt : Nat → Int32) : Prop := ∀ j : Nat, j < 256 → ∃ q : Nat, q ≤ 3 ∧ t j = nI q ∧ mt j = nI q ∧ ((q = 0 ∧ v j = (-1 : Int32)) ∨ (q ≠ 0 ∧ ∃ x : Nat, x < 256 ∧ v j = nI x ∧ mv j = nI x))
theorem RelS_clear {v t mv mt : Nat → Int32} : RelS (setB v 0 (-1)) (setB t 0 0) mv (setB mt 0 0) := fun j hj => ⟨0, by omega, if_pos ⟨by omega, hj⟩, if_pos ⟨by omega, hj⟩, Or.inl ⟨rfl, if_pos ⟨by omega, hj⟩⟩⟩
theorem RelS_tell {v t mv mt : Nat → Int32} (h : RelS v t mv mt) {k q x : Nat} (hq0 : q ≠ 0) (hq : q ≤ 3) (hx : x < 256) : RelS (upd v k (nI x)) (upd t k (nI q)) (upd mv k (nI x)) (upd mt k (nI q)) := fun j hj => by
  by_cases e : j = k
  · subst e
    exact ⟨q, hq, upd_at _ _ _, upd_at _ _ _, Or.inr ⟨hq0, x, hx, upd_at _ _ _, upd_at _ _ _⟩⟩
  · rw [upd_ne _ _ e, upd_ne _ _ e, upd_ne _ _ e, upd_ne _ _ e]
    exact h j hj
/-! countSure and sure -/
theorem p_sure_L (N : Nat) {v t mv mt : Nat → Int32} (hR : RelS v t mv mt) : ∀ (k i n1 n2 : Nat) (c : Int32), i + k = 256 → k < n1 → k < n2 → ∃ r : Int32, d_Map_countSure_L4 N t n1 c (nI i) = some r ∧ d_Mod_sure_L4 N mt n2 c (nI i) = some r := by
  intro k
  induction k with
  | zero =>
    intro i n1 n2 c hi h1 h2
    obtain ⟨n1, rfl⟩ : ∃ q, n1 = q + 1 := ⟨n1 - 1, by omega⟩
    obtain ⟨n2, rfl⟩ : ∃ q, n2 = q + 1 := ⟨n2 - 1, by omega⟩
    obtain rfl : i = 256 := by omega
    have hc : (256 : Int32) ≤ nI 256 := nI_le (Nat.le_refl _) (by decide)
    exact ⟨c, by rw [d_Map_countSure_L4, if_pos hc], by rw [d_Mod_sure_L4, if_pos hc]⟩
  | succ k ih =>
    intro i n1 n2 c hi h1 h2
    obtain ⟨n1, rfl⟩ : ∃ q, n1 = q + 1 := ⟨n1 - 1, by omega⟩
    obtain ⟨n2, rfl⟩ : ∃ q, n2 = q + 1 := ⟨n2 - 1, by omega⟩
    have hc : ¬ (256 : Int32) ≤ nI i := n256 (by omega)
    obtain ⟨q, hq, e1, e2, -⟩ := hR i (by omega)
    rw [d_Map_countSure_L4, if_neg hc, gI_n (by omega) (by decide), nI_clamp (by omega), d_Mod_sure_L4, if_neg hc, gI_n (by omega) (by decide), nI_clamp (by omega), e1, e2, nI_1]
    by_cases h : nI q = (1 : Int32)
    · rw [if_pos h, if_pos h]
      exact ih (i + 1) n1 n2 (c + 1) (by omega) (by omega) (by omega)
    · rw [if_neg h, if_neg h]
      exact ih (i + 1) n1 n2 c (by omega) (by omega) (by omega)
theorem p_sure {N : Nat} (hN : 300 ≤ N) {v t mv mt : Nat → Int32} (hR : RelS v t mv mt) : ∃ r : Int32, d_Map_countSure N t = some r ∧ d_Mod_sure N mt = some r := by
  obtain ⟨r, h1, h2⟩ := p_sure_L N hR 256 0 N N 0 (by omega) (by omega) (by omega)
  refine ⟨r, ?_, ?_⟩
  · unfold d_Map_countSure
    rw [show (0 : Int32) = nI 0 from rfl] at h1 ⊢
    rw [h1]
    rfl
  · unfold d_Mod_sure
    rw [show (0 : Int32) = nI 0 from rfl] at h2 ⊢
    rw [h2]
    rfl

