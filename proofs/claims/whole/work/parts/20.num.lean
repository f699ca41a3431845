def bt (x : Int32) (i : Nat) : Bool := x.toBitVec.getLsbD i
theorem b_ext {x y : Int32} (h : ∀ i, i < 32 → bt x i = bt y i) : x = y := Int32.toBitVec_inj.mp (BitVec.eq_of_getLsbD_eq (fun i hi => h i hi))
theorem b_or (x y : Int32) (i : Nat) : bt (x ||| y) i = (bt x i || bt y i) := by unfold bt; rw [Int32.toBitVec_or, BitVec.getLsbD_or]
theorem b_and (x y : Int32) (i : Nat) : bt (x &&& y) i = (bt x i && bt y i) := by unfold bt; rw [Int32.toBitVec_and, BitVec.getLsbD_and]
theorem b_xor (x y : Int32) (i : Nat) : bt (x ^^^ y) i = (bt x i ^^ bt y i) := by unfold bt; rw [Int32.toBitVec_xor, BitVec.getLsbD_xor]
theorem b_big {x : Int32} {i : Nat} (h : 32 ≤ i) : bt x i = false := BitVec.getLsbD_of_ge _ _ h
theorem b_255 (i : Nat) : bt 255 i = decide (i < 8) := by
  rcases Nat.lt_or_ge i 32 with h | h
  · exact (by decide +kernel : ∀ i, i < 32 → bt 255 i = decide (i < 8)) i h
  · rw [b_big h, decide_eq_false (by omega)]
theorem b_65535 (i : Nat) : bt 65535 i = decide (i < 16) := by
  rcases Nat.lt_or_ge i 32 with h | h
  · exact (by decide +kernel : ∀ i, i < 32 → bt 65535 i = decide (i < 16)) i h
  · rw [b_big h, decide_eq_false (by omega)]
theorem b_m1 : ∀ i, i < 32 → bt (-1) i = true := by decide +kernel
theorem b_0 (i : Nat) : bt 0 i = false := BitVec.getLsbD_zero
theorem s_l : ∀ n, n < 32 → ((nI n &&& 31).toBitVec.smod 32).toNat = n := by decide +kernel
theorem s_u : ∀ n, n < 32 → (((nI n).toUInt32 &&& Int32.toUInt32 31).toBitVec % 32).toNat = n := by decide +kernel
theorem b_shl (n : Nat) (hn : n < 32) (x : Int32) {i : Nat} (hi : i < 32) : bt (x <<< (nI n &&& 31)) i = (decide (n ≤ i) && bt x (i - n)) := by
  unfold bt
  rw [Int32.toBitVec_shiftLeft]
  show (x.toBitVec <<< ((nI n &&& 31).toBitVec.smod 32).toNat).getLsbD i = _
  rw [s_l n hn, BitVec.getLsbD_shiftLeft]
  rcases Nat.lt_or_ge i n with h | h
  · simp [h, Nat.not_le.mpr h]
  · simp [hi, h, Nat.not_lt.mpr h]
theorem b_ushr (n : Nat) (hn : n < 32) (x : Int32) (i : Nat) : bt ((x.toUInt32 >>> ((nI n).toUInt32 &&& Int32.toUInt32 31)).toInt32) i = bt x (n + i) := by
  show (x.toUInt32 >>> ((nI n).toUInt32 &&& Int32.toUInt32 31)).toBitVec.getLsbD i = x.toUInt32.toBitVec.getLsbD (n + i)
  rw [UInt32.toBitVec_shiftRight]
  show (x.toUInt32.toBitVec >>> (((nI n).toUInt32 &&& Int32.toUInt32 31).toBitVec % 32).toNat).getLsbD i = _
  rw [s_u n hn, BitVec.getLsbD_ushiftRight]
theorem b_sshr (n : Nat) (hn : n < 32) (x : Int32) {i : Nat} (hi : i < 32) : bt (x >>> (nI n &&& 31)) i = if n + i < 32 then bt x (n + i) else bt x 31 := by
  unfold bt
  rw [Int32.toBitVec_shiftRight]
  show (x.toBitVec.sshiftRight ((nI n &&& 31).toBitVec.smod 32).toNat).getLsbD i = _
  rw [s_l n hn, BitVec.getLsbD_sshiftRight, BitVec.msb_eq_getLsbD_last]
  simp [hi]
theorem wb_tb (n : Nat) : (lN n).toBitVec = BitVec.ofNat 64 n := rfl
theorem wb_inj {a b : Int64} (h : a.toBitVec = b.toBitVec) : a = b := Int64.toBitVec_inj.mp h
theorem wb_tn {n : Nat} (h : n < 2 ^ 64) : (lN n).toBitVec.toNat = n := by rw [wb_tb, BitVec.toNat_ofNat, Nat.mod_eq_of_lt h]
theorem wb_of (x : Int64) : ∃ n, n < 2 ^ 64 ∧ x = lN n := ⟨x.toBitVec.toNat, x.toBitVec.isLt, wb_inj (by rw [wb_tb]; simp)⟩
theorem wb_of32 (x : Int32) : ∃ n, n < 2 ^ 32 ∧ x = nI n := ⟨x.toBitVec.toNat, x.toBitVec.isLt, Int32.toBitVec_inj.mp (by show _ = BitVec.ofNat 32 _; simp)⟩
theorem wb_c : ∀ k, k < 64 → ((nI k).toInt64 &&& 63) = lN k := by decide +kernel
theorem wb_cu : ∀ k, k < 64 → ((nI k).toInt64.toUInt64 &&& Int64.toUInt64 63) = UInt64.ofNat k := by decide +kernel
theorem wb_sm : ∀ k, k < 64 → (BitVec.ofNat 64 k).smod 64 = BitVec.ofNat 64 k := by decide +kernel
theorem wb_pw {a b : Nat} (h : a ≤ b) : 2 ^ b = 2 ^ a * 2 ^ (b - a) := by rw [← Nat.pow_add]; congr 1; omega
theorem wb_lt2 {a b : Nat} (h : a < b) : 2 ^ a < 2 ^ b := Nat.pow_lt_pow_right (by decide) h
theorem wb_mod (n : Nat) : lN n = lN (n % 2 ^ 64) := wb_inj (by rw [wb_tb, wb_tb]; apply BitVec.eq_of_toNat_eq; rw [BitVec.toNat_ofNat, BitVec.toNat_ofNat, Nat.mod_mod])
theorem wb_shr {n k : Nat} (hn : n < 2 ^ 64) (hk : k < 64) : ((lN n).toUInt64 >>> ((nI k).toInt64.toUInt64 &&& Int64.toUInt64 63)).toInt64 = lN (n / 2 ^ k) := by
  rw [wb_cu k hk]
  apply wb_inj
  apply BitVec.eq_of_toNat_eq
  show ((lN n).toUInt64 >>> UInt64.ofNat k).toNat = (BitVec.ofNat 64 _).toNat
  have h1 : (UInt64.ofNat k).toNat = k := by
    show (BitVec.ofNat 64 k).toNat = k
    rw [BitVec.toNat_ofNat, Nat.mod_eq_of_lt (by omega)]
  have h2 : (lN n).toUInt64.toNat = n := wb_tn hn
  rw [UInt64.toNat_shiftRight, h1, h2, Nat.mod_eq_of_lt hk, Nat.shiftRight_eq_div_pow, BitVec.toNat_ofNat, Nat.mod_eq_of_lt (Nat.lt_of_le_of_lt (Nat.div_le_self _ _) hn)]
theorem wb_shl (n : Nat) {k : Nat} (hk : k < 64) : lN n <<< ((nI k).toInt64 &&& 63) = lN (n * 2 ^ k) := by
  rw [wb_c k hk]
  apply wb_inj
  rw [Int64.toBitVec_shiftLeft, wb_tb, wb_tb, wb_tb, wb_sm k hk]
  apply BitVec.eq_of_toNat_eq
  rw [BitVec.shiftLeft_eq', BitVec.toNat_shiftLeft, BitVec.toNat_ofNat, BitVec.toNat_ofNat, BitVec.toNat_ofNat, Nat.mod_eq_of_lt (show k < 2 ^ 64 by omega), Nat.shiftLeft_eq, Nat.mul_mod, Nat.mod_mod, ← Nat.mul_mod]
/-! ===== my numbers ===== -/
theorem pw1 {k : Nat} (hk : k < 64) : (1 : Int64) <<< ((nI k).toInt64 &&& 63) = lN (2 ^ k) := by
  have h : (1 : Int64) <<< ((nI k).toInt64 &&& 63) = lN (1 * 2 ^ k) := wb_shl 1 hk
  rw [Nat.one_mul] at h
  exact h
theorem pw_le {k : Nat} (hk : k ≤ 31) : 2 ^ k ≤ 2147483648 := Nat.pow_le_pow_right (by decide) hk
theorem lNp {k : Nat} (hk : k ≤ 31) : (lN (2 ^ k)).toInt = ((2 ^ k : Nat) : Int) := pk_lT (Nat.lt_of_le_of_lt (pw_le hk) (by decide))
def lowS (w g : Int32) : Int64 := if g = 0 then 0 else -((1 : Int64) <<< ((w - 1).toInt64 &&& 63))
def highS (w g : Int32) : Int64 := if g = 0 then ((1 : Int64) <<< (w.toInt64 &&& 63)) - 1 else ((1 : Int64) <<< ((w - 1).toInt64 &&& 63)) - 1
/-- the range of a NAME of k bits, in whole numbers -/
theorem rng {k : Nat} (h2 : 2 ≤ k) (h3 : k ≤ 31) (g : Int32) : ∃ L U M : Int, (lowS (nI k) g).toInt = L ∧ (highS (nI k) g).toInt = U ∧ ((2 ^ k : Nat) : Int) = M ∧ U = L + M - 1 ∧ L ≤ 0 ∧ 0 ≤ U ∧ 4 ≤ M ∧ M ≤ 2147483648 ∧ -1073741824 ≤ L ∧ U ≤ 2147483647 := by
  obtain ⟨j, rfl⟩ : ∃ j, k = j + 1 := ⟨k - 1, by omega⟩
  have hj : 2 ≤ 2 ^ j := by
    have := Nat.pow_le_pow_right (n := 2) (by decide) (show 1 ≤ j by omega)
    omega
  have hj2 : 2 ^ j ≤ 1073741824 := by
    have := Nat.pow_le_pow_right (n := 2) (by decide) (show j ≤ 30 by omega)
    omega
  have hs : 2 ^ (j + 1) = 2 * 2 ^ j := by rw [Nat.pow_succ]; omega
  have one : (1 : Int64) = lN 1 := rfl
  have hneg : (-(lN (2 ^ j))).toInt = -((2 ^ j : Nat) : Int) := by
    rw [Kit.i64_neg (by rw [lNp (by omega)]; omega), lNp (by omega)]
  have hp1 : (lN (2 ^ j) - 1).toInt = ((2 ^ j : Nat) : Int) - 1 := by
    rw [one, lN_sub (by omega), pk_lT (by omega)]; omega
  have hp2 : (lN (2 ^ (j + 1)) - 1).toInt = ((2 ^ (j + 1) : Nat) : Int) - 1 := by
    rw [one, lN_sub (by omega), pk_lT (by omega)]; omega
  unfold lowS highS
  rw [nI_pred, pw1 (show j < 64 by omega), pw1 (show j + 1 < 64 by omega)]
  by_cases hg : g = 0
  · rw [if_pos hg, if_pos hg]
    exact ⟨0, _, _, rfl, hp2, rfl, by omega, by omega, by omega, by omega, by omega, by omega, by omega⟩
  · rw [if_neg hg, if_neg hg]
    exact ⟨_, _, _, hneg, hp1, rfl, by omega, by omega, by omega, by omega, by omega, by omega, by omega⟩
theorem mask_i {k : Nat} (hk : k ≤ 31) (v : Int64) : (v &&& (((1 : Int64) <<< ((nI k).toInt64 &&& 63)) - 1)).toInt = v.toInt % ((2 ^ k : Nat) : Int) := by
  have h1 : 1 ≤ 2 ^ k := Nat.one_le_two_pow
  have hk2 := pw_le hk
  rw [pw1 (by omega), show (1 : Int64) = lN 1 from rfl, lN_sub h1]
  have := Kit.i64_mask v (lN (2 ^ k - 1)) (k := k) (by omega) (wb_tn (by omega))
  rw [this]
  norm_cast
/-- the model's rest by a power of two is the mask of the class -/
theorem rest_eq {k : Nat} (hk : k ≤ 31) (v : Int64) : mX8_rest v ((1 : Int64) <<< ((nI k).toInt64 &&& 63)) = some (v &&& (((1 : Int64) <<< ((nI k).toInt64 &&& 63)) - 1)) := by
  have hm := mask_i hk v
  have hk2 := pw_le hk
  have hB : ((1 : Int64) <<< ((nI k).toInt64 &&& 63)).toInt = ((2 ^ k : Nat) : Int) := by rw [pw1 (by omega), lNp hk]
  have h1 : 1 ≤ 2 ^ k := Nat.one_le_two_pow
  generalize (1 : Int64) <<< ((nI k).toInt64 &&& 63) = y at hm hB ⊢
  have hr := Kit.i64_rem v y
  rw [hB] at hr
  have e0 := Int.emod_nonneg v.toInt (show ((2 ^ k : Nat) : Int) ≠ 0 by omega)
  have e1 := Int.emod_lt_of_pos v.toInt (show (0 : Int) < ((2 ^ k : Nat) : Int) by omega)
  have et := Int.tmod_eq_emod (a := v.toInt) (b := ((2 ^ k : Nat) : Int))
  unfold mX8_rest
  rw [if_neg (fun h => by rw [h, Int64.toInt_zero] at hB; omega)]
  by_cases h : (0 : Int64) ≤ v - v / y * y
  · rw [if_pos h]
    refine congrArg some (Int64.toInt_inj.mp ?_)
    rw [Kit.i64_nonneg, hr] at h
    rw [hr, hm]
    split at et <;> omega
  · rw [if_neg h]
    refine congrArg some (Int64.toInt_inj.mp ?_)
    rw [Kit.i64_nonneg, hr] at h
    rw [Kit.i64_add (by rw [hr, hB]; split at et <;> omega) (by rw [hr, hB]; split at et <;> omega), hr, hB, hm]
    split at et <;> omega
/-- what lies in the range stays by the wrap -/
theorem wrap_id {k : Nat} (h2 : 2 ≤ k) (h3 : k ≤ 31) (g : Int32) {v : Int64} (hl : ¬ v < lowS (nI k) g) (hh : ¬ highS (nI k) g < v) : lowS (nI k) g + ((v - lowS (nI k) g) &&& (((1 : Int64) <<< ((nI k).toInt64 &&& 63)) - 1)) = v := by
  obtain ⟨L, U, M, e1, e2, e3, r1, r2, r3, r4, r5, r6, r7⟩ := rng h2 h3 g
  rw [Int64.lt_iff_toInt_lt, e1] at hl
  rw [Int64.lt_iff_toInt_lt, e2] at hh
  have hs : (v - lowS (nI k) g).toInt = v.toInt - L := by rw [Kit.i64_sub (by rw [e1]; omega) (by rw [e1]; omega), e1]
  have hm := mask_i h3 (v - lowS (nI k) g)
  rw [hs, e3, Int.emod_eq_of_lt (by omega) (by omega)] at hm
  refine Int64.toInt_inj.mp ?_
  rw [Kit.i64_add (by rw [hm, e1]; omega) (by rw [hm, e1]; omega), hm, e1]
  omega
/-! bits -/
theorem b_1 : ∀ i, i < 32 → bt 1 i = decide (i = 0) := by decide +kernel
theorem and1 (x : Int32) : x &&& 1 = if bt x 0 = true then 1 else 0 := by
  by_cases h : bt x 0 = true
  · rw [if_pos h]
    refine b_ext (fun i hi => ?_)
    rw [b_and, b_1 i hi]
    by_cases h0 : i = 0
    · subst h0; simp [h]
    · simp [h0]
  · rw [if_neg h]
    refine b_ext (fun i hi => ?_)
    rw [b_and, b_1 i hi, b_0]
    by_cases h0 : i = 0
    · subst h0; simp at h; simp [h]
    · simp [h0]
theorem shb (b : Int32) {s : Nat} (hs : s < 32) : (b >>> (nI s &&& 31)) &&& 1 = if bt b s = true then 1 else 0 := by
  rw [and1, b_sshr s hs b (by omega)]
  simp [hs]
theorem orb (b : Int32) {s t : Nat} (hs : s < 32) (ht : t < 32) : bt (b ||| ((1 : Int32) <<< (nI s &&& 31))) t = (bt b t || decide (s = t)) := by
  rw [b_or, b_shl s hs 1 ht]
  by_cases h : s ≤ t
  · rw [b_1 (t - s) (by omega)]
    by_cases h2 : s = t
    · subst h2; simp
    · have : ¬ t - s = 0 := by omega
      simp [h2, this]
  · have : ¬ s = t := by omega
    simp [h, this]
theorem orb_ne (b : Int32) {s : Nat} (hs : s < 32) : ¬ (b ||| ((1 : Int32) <<< (nI s &&& 31))) = 0 := by
  intro h
  have h1 := orb b hs hs
  rw [h, b_0] at h1
  simp at h1
/-! how far -/
theorem abs_i {v : Int64} (h : v.toInt ≠ -9223372036854775808) : (if 0 < v then v else -v).toInt = v.toInt.natAbs := by
  by_cases h0 : 0 < v
  · rw [if_pos h0]
    rw [Int64.lt_iff_toInt_lt, Int64.toInt_zero] at h0
    omega
  · rw [if_neg h0]
    rw [Int64.lt_iff_toInt_lt, Int64.toInt_zero] at h0
    rw [Kit.i64_neg (by omega)]
    omega
theorem tn_nI {n : Nat} (h : n < 2147483648) : Int32.toNatClampNeg (nI n) = n := nI_clamp h
theorem tn0 : Int32.toNatClampNeg (0 : Int32) = 0 := rfl
theorem tn1 : Int32.toNatClampNeg (1 : Int32) = 1 := rfl
theorem gd_nI {n N : Nat} (h : n < N) (hN : N < 2147483648) : ¬ (nI n < 0 ∨ N ≤ Int32.toNatClampNeg (nI n)) := nI_in h hN
theorem nar0 : vp_nar .boolean 0 = 0 := rfl
theorem nar1 : vp_nar .boolean 1 = 1 := rfl
