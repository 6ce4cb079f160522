/-! pure: feed -/
theorem sh_ar (x D : Int64) (d : Nat) (hD : (D.toBitVec.smod 64).toNat = d) : (x >>> D).toInt = x.toInt >>> d := by
  show (x.toBitVec.sshiftRight (D.toBitVec.smod 64).toNat).toInt = _
  rw [hD, BitVec.toInt_sshiftRight]
  rfl
theorem low8 (y : Int32) : y &&& (255 : Int32) = nI (y.toBitVec.toNat % 256) := pk_and y 8 (by decide)
theorem tn32 (z : Int64) : z.toInt32.toBitVec.toNat % 256 = z.toBitVec.toNat % 256 := by
  show (z.toBitVec.signExtend 32).toNat % 256 = _
  rw [BitVec.signExtend_eq_setWidth_of_le _ (by decide), BitVec.toNat_setWidth]
  omega
theorem int64_nat (x : Int64) : x.toInt = if 2 * x.toBitVec.toNat < 18446744073709551616 then (x.toBitVec.toNat : Int) else (x.toBitVec.toNat : Int) - 18446744073709551616 := BitVec.toInt_eq_toNat_cond _
theorem low8L (z : Int64) : (z &&& (255 : Int64)).toInt32 = nI (z.toBitVec.toNat % 256) := by
  have e : z &&& (255 : Int64) = lN (z.toBitVec.toNat % 256) := by
    apply Int64.toBitVec_inj.mp
    apply BitVec.eq_of_toNat_eq
    rw [Int64.toBitVec_and, BitVec.toNat_and, show (255 : Int64).toBitVec.toNat = 2 ^ 8 - 1 from by decide, Nat.and_two_pow_sub_one_eq_mod]
    show _ = (BitVec.ofNat 64 _).toNat
    rw [BitVec.toNat_ofNat]
    omega
  rw [e, lN_i]
theorem fb (x D : Int64) (E : UInt64) (d P : Nat) (hD : (D.toBitVec.smod 64).toNat = d) (hE : E.toNat % 64 = d) (hP : 2 ^ d = P) (h8 : ∀ u r : Nat, u < 18446744073709551616 → r < 18446744073709551616 → (if 2 * r < 18446744073709551616 then (r : Int) else (r : Int) - 18446744073709551616) = (if 2 * u < 18446744073709551616 then (u : Int) else (u : Int) - 18446744073709551616) / (P : Int) → r % 256 = u / P % 256) :
    ∃ v : Nat, v < 256 ∧ ((x >>> D).toInt32 &&& (255 : Int32)) = nI v ∧ (((x.toUInt64 >>> E).toInt64) &&& (255 : Int64)).toInt32 = nI v := by
  refine ⟨x.toBitVec.toNat / P % 256, Nat.mod_lt _ (by decide), ?_, ?_⟩
  · rw [low8, tn32]
    refine congrArg nI (h8 _ _ x.toBitVec.isLt (x >>> D).toBitVec.isLt ?_)
    rw [← int64_nat, ← int64_nat, sh_ar x D d hD, Int.shiftRight_eq_div_pow, hP]
  · rw [low8L]
    congr 2
    show (x.toUInt64 >>> E).toNat = _
    rw [UInt64.toNat_shiftRight, hE, Nat.shiftRight_eq_div_pow, hP]
    rfl
theorem feed_byte (x : Int64) {k : Nat} (hk : k < 8) : ∃ v : Nat, v < 256 ∧ ((x >>> (((8 : Int32) * nI k).toInt64 &&& 63)).toInt32 &&& (255 : Int32)) = nI v ∧ (((x.toUInt64 >>> (((8 : Int32) * nI k).toInt64.toUInt64 &&& Int64.toUInt64 63)).toInt64) &&& (255 : Int64)).toInt32 = nI v := by
  rcases (show k = 0 ∨ k = 1 ∨ k = 2 ∨ k = 3 ∨ k = 4 ∨ k = 5 ∨ k = 6 ∨ k = 7 by omega) with rfl | rfl | rfl | rfl | rfl | rfl | rfl | rfl
  · exact fb x _ _ 0 1 (by decide) (by decide) (by decide) (fun u r hu hr h => by split at h <;> split at h <;> omega)
  · exact fb x _ _ 8 256 (by decide) (by decide) (by decide) (fun u r hu hr h => by split at h <;> split at h <;> omega)
  · exact fb x _ _ 16 65536 (by decide) (by decide) (by decide) (fun u r hu hr h => by split at h <;> split at h <;> omega)
  · exact fb x _ _ 24 16777216 (by decide) (by decide) (by decide) (fun u r hu hr h => by split at h <;> split at h <;> omega)
  · exact fb x _ _ 32 4294967296 (by decide) (by decide) (by decide) (fun u r hu hr h => by split at h <;> split at h <;> omega)
  · exact fb x _ _ 40 1099511627776 (by decide) (by decide) (by decide) (fun u r hu hr h => by split at h <;> split at h <;> omega)
  · exact fb x _ _ 48 281474976710656 (by decide) (by decide) (by decide) (fun u r hu hr h => by split at h <;> split at h <;> omega)
  · exact fb x _ _ 56 72057594037927936 (by decide) (by decide) (by decide) (fun u r hu hr h => by split at h <;> split at h <;> omega)
theorem p_feed_L (N : Nat) (x : Int64) (n bc : Nat) (hn : n ≤ 8) (hbc : bc + n ≤ 1200) (p h r q : Int32) : ∀ (k i n1 n2 : Nat) (cb mb : Nat → Int32), i + k = n → k < n1 → k < n2 → RelB cb mb → ∃ cb' mb' : Nat → Int32, d_MR_feed_L46 N x (nI n) n1 (nI i) (nI bc) p h cb = some (nI bc, p, h, cb') ∧ d_Mod_feed_L48 N x (nI n) n2 (nI i) 0 (nI (bc + i)) r q mb = some (0, nI (bc + n), r, q, mb') ∧ RelB cb' mb' := by
  intro k
  induction k with
  | zero =>
    intro i n1 n2 cb mb hi h1 h2 hR
    obtain ⟨n1, rfl⟩ : ∃ z, n1 = z + 1 := ⟨n1 - 1, by omega⟩
    obtain ⟨n2, rfl⟩ : ∃ z, n2 = z + 1 := ⟨n2 - 1, by omega⟩
    obtain rfl : i = n := by omega
    have hc : nI i ≤ nI i := nI_le (Nat.le_refl _) (by omega)
    exact ⟨cb, mb, by rw [d_MR_feed_L46, if_pos hc], by rw [d_Mod_feed_L48, if_pos hc], hR⟩
  | succ k ih =>
    intro i n1 n2 cb mb hi h1 h2 hR
    obtain ⟨n1, rfl⟩ : ∃ z, n1 = z + 1 := ⟨n1 - 1, by omega⟩
    obtain ⟨n2, rfl⟩ : ∃ z, n2 = z + 1 := ⟨n2 - 1, by omega⟩
    have hc : ¬ nI n ≤ nI i := nI_ge (by omega) (by omega)
    obtain ⟨v, hv, e1, e2⟩ := feed_byte x (k := i) (by omega)
    obtain ⟨cb', mb', g1, g2, g3⟩ := ih (i + 1) n1 n2 (upd cb (bc + i) (nI v)) (upd mb (bc + i) (nI v)) (by omega) (by omega) (by omega) (RelB_upd hR (bc + i) hv)
    refine ⟨cb', mb', ?_, ?_, g3⟩
    · rw [d_MR_feed_L46, if_neg hc, nI_add, gI_n (by omega) (by decide), nI_clamp (by omega), e1, nI_1]
      exact g1
    · rw [d_Mod_feed_L48, if_neg hc, gI_n (by omega) (by decide), nI_clamp (by omega), e2, nI_1, nI_1]
      exact g2
theorem q_feed {N : Nat} (hN : 300 ≤ N) (x : Int64) (y thr : Int32) {bc : Nat} (hbc : bc ≤ 1200) (a1 a2 m1 m2 : Int32) {cb mb : Nat → Int32} (f : Nat → Int64) (hR : RelB cb mb) : ∃ (k b p1 p2 : Int32) (bc' : Nat) (cb' mb' : Nat → Int32) (f' : Nat → Int64) (n1 n2 : Int32), bc' ≤ 1200 ∧ d_Law_feed N x y (nI bc) a1 a2 cb f = some (k, nI bc', p1, p2, cb', f') ∧ d_Mod_feed N x y thr (nI bc) m2 m1 mb = some (b, k, nI bc', n2, n1, mb') ∧ (k = 0 → lg_cmp (f' (0 : Int32).toNatClampNeg) b.toInt64 = 0) ∧ RelB cb' mb' ∧ ((bc' = bc ∧ p1 = a1 ∧ p2 = a2 ∧ n1 = m1 ∧ n2 = m2) ∨ (p1 = 0 ∧ p2 = 0 ∧ n1 = 0 ∧ n2 = 0)) := by
  unfold d_Law_feed d_MR_feed d_Mod_feed d_MR_forgetParts d_Mod_lose
  by_cases h1 : y < (1 : Int32)
  · rw [if_pos h1, if_pos h1]
    exact ⟨1, 0, a1, a2, bc, cb, mb, f, m1, m2, hbc, rfl, rfl, fun h => absurd h (by decide), hR, Or.inl ⟨rfl, rfl, rfl, rfl, rfl⟩⟩
  rw [if_neg h1, if_neg h1]
  by_cases h2 : y ≤ (8 : Int32)
  · have h0 : ¬ y < 0 := fun h => h1 (by
      rw [Int32.lt_iff_toInt_lt] at h ⊢
      have e0 : (0 : Int32).toInt = 0 := by decide
      have e1 : (1 : Int32).toInt = 1 := by decide
      omega)
    obtain ⟨n, hn, rfl⟩ := nI_of2 (n := 8) (M := 8) (by decide) h0 h2
    have hs : (1200 : Int32) - nI bc = nI (1200 - bc) := pk_sub (a := 1200) hbc
    rw [if_pos h2, if_pos h2, hs, nI_add]
    by_cases h3 : n ≤ 1200 - bc
    · obtain ⟨cb', mb', g1, g2, g3⟩ := p_feed_L N x n bc hn (by omega) a1 a2 m2 m1 n 0 N N cb mb (by omega) (by omega) (by omega) hR
      rw [Nat.add_zero] at g2
      rw [if_pos (nI_le h3 (by omega)), if_pos (show nI (bc + n) ≤ (1200 : Int32) from nI_le (b := 1200) (by omega) (by decide))]
      rw [show (0 : Int32) = nI 0 from rfl] at g2 ⊢
      rw [g1, g2]
      refine ⟨0, nI (bc + n), 0, 0, bc + n, cb', mb', vp_updL f (0 : Int32).toNatClampNeg (nI (bc + n)).toInt64, 0, 0, by omega, ?_, rfl, fun _ => ans0 f _, g3, Or.inr ⟨rfl, rfl, rfl, rfl⟩⟩
      show some ((0 : Int32), nI bc + nI n, (0 : Int32), (0 : Int32), cb', vp_updL f (0 : Int32).toNatClampNeg (nI bc + nI n).toInt64) = _
      rw [nI_add]
    · rw [if_neg (fun e => h3 ((nI_leI (by omega) (by omega)).mp e)), if_neg (show ¬ nI (bc + n) ≤ (1200 : Int32) from fun e => h3 (by have := (nI_leI (b := 1200) (by omega) (by decide)).mp e; omega))]
      exact ⟨2, 0, a1, a2, bc, cb, mb, f, m1, m2, hbc, rfl, rfl, fun h => absurd h (by decide), hR, Or.inl ⟨rfl, rfl, rfl, rfl, rfl⟩⟩
  · rw [if_neg h2, if_neg h2]
    exact ⟨1, 0, a1, a2, bc, cb, mb, f, m1, m2, hbc, rfl, rfl, fun h => absurd h (by decide), hR, Or.inl ⟨rfl, rfl, rfl, rfl, rfl⟩⟩

