/-! ===== the names, and a step: class and model side by side ===== -/
theorem ite_some {α : Type} (c : Prop) [Decidable c] (a b : α) : (if c then some a else some b) = some (if c then a else b) := by split <;> rfl
theorem c_wrapped {n : Nat} (hn : n < 6) (wd : Nat → Int32) (lw : Nat → Int64) (v : Int64) : mX1_wrapped wd lw (nI n) v = some (lw n + ((v - lw n) &&& (((1 : Int64) <<< ((wd n).toInt64 &&& 63)) - 1))) := by
  unfold mX1_wrapped mX1_rest
  rw [if_neg (gd_nI hn (by decide)), tn_nI (by omega)]
  rfl
theorem c_nearest {n : Nat} (hn : n < 6) (lw hg : Nat → Int64) (v : Int64) : mX1_nearestTo lw hg (nI n) v = some (if (if v < hg n then v else hg n) < lw n then lw n else (if v < hg n then v else hg n)) := by
  unfold mX1_nearestTo
  rw [if_neg (gd_nI hn (by decide)), tn_nI (by omega)]
theorem c_fitted {n : Nat} (hn : n < 6) (nr : Int32) (wd : Nat → Int32) (lw hg : Nat → Int64) (v : Int64) : mX1_fitted nr wd lw hg (nI n) v = some (if nr = 0 then lw n + ((v - lw n) &&& (((1 : Int64) <<< ((wd n).toInt64 &&& 63)) - 1)) else (if (if v < hg n then v else hg n) < lw n then lw n else (if v < hg n then v else hg n))) := by
  unfold mX1_fitted
  rw [c_wrapped hn, c_nearest hn]
  by_cases h : nr = 0
  · rw [if_pos h, if_pos h]; rfl
  · rw [if_neg h, if_neg h]; rfl
theorem c_holds {n : Nat} (hn : n < 6) (lw hg : Nat → Int64) (v : Int64) : mX1_holds lw hg (nI n) v = some (if v < lw n ∨ hg n < v then 0 else 1) := by
  unfold mX1_holds
  rw [if_neg (gd_nI hn (by decide)), tn_nI (by omega)]
  by_cases h1 : v < lw n
  · rw [if_pos h1, if_pos (Or.inl h1)]
  · rw [if_neg h1]
    by_cases h2 : hg n < v
    · rw [if_pos h2, if_pos (Or.inr h2)]
    · rw [if_neg h2, if_neg (fun h => h.elim h1 h2)]
theorem m_in (v a b : Int64) : mX8_in v a b = some (if v < a ∨ b < v then 0 else 1) := by
  unfold mX8_in
  by_cases h1 : v < a
  · rw [if_pos h1, if_pos (Or.inl h1)]
  · rw [if_neg h1]
    by_cases h2 : b < v
    · rw [if_pos h2, if_pos (Or.inr h2)]
    · rw [if_neg h2, if_neg (fun h => h.elim h1 h2)]
theorem m_low {n : Nat} (hn : n < 6) (zw zs : Nat → Int32) : mX8_low zw zs (nI n) = some (lowS (zw n) (zs n)) := by
  unfold mX8_low lowS
  rw [if_neg (gd_nI hn (by decide)), tn_nI (by omega)]
  by_cases h : zs n = 0
  · rw [if_pos h, if_pos h]
  · rw [if_neg h, if_neg h]
theorem m_high {n : Nat} (hn : n < 6) (zw zs : Nat → Int32) : mX8_high zw zs (nI n) = some (highS (zw n) (zs n)) := by
  unfold mX8_high highS
  rw [if_neg (gd_nI hn (by decide)), tn_nI (by omega)]
  by_cases h : zs n = 0
  · rw [if_pos h, if_pos h]
  · rw [if_neg h, if_neg h]
theorem m_goes {n : Nat} (hn : n < 6) (zw zs : Nat → Int32) (v : Int64) : mX8_goesOver zw zs (nI n) v = some (if v < lowS (zw n) (zs n) ∨ highS (zw n) (zs n) < v then 1 else 0) := by
  unfold mX8_goesOver
  rw [m_low hn, m_high hn, Option.bind_some, Option.bind_some, m_in, Option.bind_some]
  by_cases h : v < lowS (zw n) (zs n) ∨ highS (zw n) (zs n) < v
  · rw [if_pos h, if_pos h, if_pos rfl]
  · rw [if_neg h, if_neg h, if_neg (by decide)]
theorem m_put {n k : Nat} (hn : n < 6) (zm : Int32) (zw zs : Nat → Int32) (hk : zw n = nI k) (hk3 : k ≤ 31) (v : Int64) : mX8_put zm zw zs (nI n) v = some (if v < lowS (zw n) (zs n) ∨ highS (zw n) (zs n) < v then (if zm = 1 then (if lowS (zw n) (zs n) ≤ v then highS (zw n) (zs n) else lowS (zw n) (zs n)) else lowS (zw n) (zs n) + ((v - lowS (zw n) (zs n)) &&& (((1 : Int64) <<< ((zw n).toInt64 &&& 63)) - 1))) else v) := by
  unfold mX8_put
  rw [m_low hn, m_high hn, Option.bind_some, Option.bind_some, m_in, Option.bind_some]
  by_cases h : v < lowS (zw n) (zs n) ∨ highS (zw n) (zs n) < v
  · rw [if_pos h, if_pos h, if_pos rfl]
    by_cases h1 : zm = 1
    · rw [if_pos h1, if_pos h1, Option.bind_some]
      by_cases h2 : lowS (zw n) (zs n) ≤ v
      · rw [if_pos h2, if_pos h2]; rfl
      · rw [if_neg h2, if_neg h2]; rfl
    · rw [if_neg h1, if_neg h1, Option.bind_some, Option.bind_some, if_neg (gd_nI hn (by decide)), tn_nI (by omega), hk, rest_eq hk3]
      rfl
  · rw [if_neg h, if_neg h, if_neg (by decide)]
theorem clamp_eq {L U v : Int64} (h : L.toInt ≤ U.toInt) : (if (if v < U then v else U) < L then L else (if v < U then v else U)) = if v < L ∨ U < v then (if L ≤ v then U else L) else v := by
  by_cases h1 : v < L
  · have h1' := Int64.lt_iff_toInt_lt.mp h1
    have h2 : v < U := Int64.lt_iff_toInt_lt.mpr (by omega)
    have h3 : ¬ L ≤ v := fun q => by have := Int64.le_iff_toInt_le.mp q; omega
    rw [if_pos h2, if_pos h1, if_pos (Or.inl h1), if_neg h3]
  · have h1' : L.toInt ≤ v.toInt := by rw [Int64.lt_iff_toInt_lt] at h1; omega
    by_cases h2 : U < v
    · have h2' := Int64.lt_iff_toInt_lt.mp h2
      have h3 : ¬ v < U := fun q => by have := Int64.lt_iff_toInt_lt.mp q; omega
      have h4 : ¬ U < L := fun q => by have := Int64.lt_iff_toInt_lt.mp q; omega
      rw [if_neg h3, if_neg h4, if_pos (Or.inr h2), if_pos (Int64.le_iff_toInt_le.mpr h1')]
    · have h2' : v.toInt ≤ U.toInt := by rw [Int64.lt_iff_toInt_lt] at h2; omega
      rw [if_neg (show ¬ (v < L ∨ U < v) from fun q => q.elim h1 h2)]
      by_cases h3 : v < U
      · rw [if_pos h3, if_neg h1]
      · have h3' : U.toInt ≤ v.toInt := by rw [Int64.lt_iff_toInt_lt] at h3; omega
        have e : U = v := Int64.toInt_inj.mp (by omega)
        rw [if_neg h3, e, if_neg h1]
/-- the names of both sides are the same -/
def NmR (nr : Int32) (wd sg : Nat → Int32) (lw hg : Nat → Int64) (zm : Int32) (zw zs : Nat → Int32) : Prop := nr = zm ∧ (zm = 0 ∨ zm = 1) ∧ ∀ n, n < 6 → wd n = zw n ∧ sg n = zs n ∧ (zs n = 0 ∨ zs n = 1) ∧ (∃ k, 2 ≤ k ∧ k ≤ 31 ∧ zw n = nI k) ∧ lw n = lowS (zw n) (zs n) ∧ hg n = highS (zw n) (zs n)
theorem put_rel {nr : Int32} {wd sg : Nat → Int32} {lw hg : Nat → Int64} {zm : Int32} {zw zs : Nat → Int32} (h : NmR nr wd sg lw hg zm zw zs) {n : Nat} (hn : n < 6) (v : Int64) : ∃ r, mX1_fitted nr wd lw hg (nI n) v = some r ∧ mX8_put zm zw zs (nI n) v = some r := by
  obtain ⟨rfl, hm, hN⟩ := h
  obtain ⟨ew, es, hz, ⟨k, k2, k3, ek⟩, el, eh⟩ := hN n hn
  refine ⟨_, c_fitted hn nr wd lw hg v, ?_⟩
  rw [m_put hn nr zw zs ek k3 v, ew, el, eh]
  refine congrArg some ?_
  obtain ⟨L, U, M, e1, e2, e3, r1, r2, r3, -⟩ := rng k2 k3 (zs n)
  rcases hm with h0 | h0
  · rw [if_pos h0, if_neg (show ¬ nr = 1 by rw [h0]; decide)]
    by_cases hh : v < lowS (zw n) (zs n) ∨ highS (zw n) (zs n) < v
    · rw [if_pos hh]
    · rw [if_neg hh, ek]
      rw [ek] at hh
      exact (wrap_id k2 k3 (zs n) (fun q => hh (Or.inl q)) (fun q => hh (Or.inr q))).symm
  · rw [if_neg (show ¬ nr = 0 by rw [h0]; decide), if_pos h0]
    exact (clamp_eq (by rw [ek, e1, e2]; omega)).symm
theorem over_rel {nr : Int32} {wd sg : Nat → Int32} {lw hg : Nat → Int64} {zm : Int32} {zw zs : Nat → Int32} (h : NmR nr wd sg lw hg zm zw zs) {n : Nat} (hn : n < 6) (v : Int64) : (mX1_holds lw hg (nI n) v = some 1 ∧ mX8_goesOver zw zs (nI n) v = some 0) ∨ (mX1_holds lw hg (nI n) v = some 0 ∧ mX8_goesOver zw zs (nI n) v = some 1) := by
  obtain ⟨rfl, hm, hN⟩ := h
  obtain ⟨ew, es, hz, hk, el, eh⟩ := hN n hn
  rw [c_holds hn, m_goes hn, el, eh]
  by_cases hh : v < lowS (zw n) (zs n) ∨ highS (zw n) (zs n) < v
  · rw [if_pos hh, if_pos hh]; exact Or.inr ⟨rfl, rfl⟩
  · rw [if_neg hh, if_neg hh]; exact Or.inl ⟨rfl, rfl⟩
/-! what a kind makes -/
theorem made0 (a b : Int64) : mX7_made 0 a b = some b := by
  unfold mX7_made
  rw [if_pos rfl]
theorem made1 (a b : Int64) : mX7_made 1 a b = some a := by
  unfold mX7_made
  rw [if_neg (by decide), if_pos rfl]
theorem made2 (a b : Int64) : mX7_made 2 a b = some (a + b) := by
  unfold mX7_made
  rw [if_neg (by decide), if_neg (by decide), if_pos rfl]
theorem made3 (a b : Int64) : mX7_made 3 a b = some (a - b) := by
  unfold mX7_made
  rw [if_neg (by decide), if_neg (by decide), if_neg (by decide), if_pos rfl]
theorem made4 (a b : Int64) : mX7_made 4 a b = some (a * b) := by
  unfold mX7_made
  rw [if_neg (by decide), if_neg (by decide), if_neg (by decide), if_neg (by decide), if_pos rfl]
theorem made5 (a b : Int64) : mX7_made 5 a b = some (a <<< ((b.toInt32).toInt64 &&& 63)) := by
  unfold mX7_made
  rw [if_neg (by decide), if_neg (by decide), if_neg (by decide), if_neg (by decide), if_neg (by decide), if_pos rfl]
theorem made6 (a b : Int64) : mX7_made 6 a b = some (if b < a then b else a) := by
  unfold mX7_made
  rw [if_neg (by decide), if_neg (by decide), if_neg (by decide), if_neg (by decide), if_neg (by decide), if_neg (by decide), if_pos rfl]
theorem made7 (a b : Int64) : mX7_made 7 a b = some (if b ≤ a then 0 else 1) := by
  unfold mX7_made
  rw [if_neg (by decide), if_neg (by decide), if_neg (by decide), if_neg (by decide), if_neg (by decide), if_neg (by decide), if_neg (by decide)]
  by_cases h : b ≤ a
  · rw [if_pos h, if_pos h]
  · rw [if_neg h, if_neg h]
theorem c_valA {sa : Nat → Int32} {s a : Nat} (hs : s < 24) (ea : sa s = nI a) (ha : a < 6) (vf : Nat → Int64) : mX4_valueOfA sa vf (nI s) = some (vf a) := by
  unfold mX4_valueOfA
  rw [if_neg (gd_nI hs (by decide)), tn_nI (by omega), ea, if_neg (gd_nI ha (by decide)), tn_nI (by omega)]
theorem c_valB0 {sb bn : Nat → Int32} {s : Nat} (hs : s < 24) (hb : bn s = 0) (vf : Nat → Int64) : mX4_valueOfB sb bn vf (nI s) = some ((sb s).toInt64) := by
  unfold mX4_valueOfB
  rw [if_neg (gd_nI hs (by decide)), tn_nI (by omega), if_pos hb]
theorem c_valB1 {sb bn : Nat → Int32} {s b : Nat} (hs : s < 24) (hb : bn s = 1) (eb : sb s = nI b) (hb6 : b < 6) (vf : Nat → Int64) : mX4_valueOfB sb bn vf (nI s) = some (vf b) := by
  unfold mX4_valueOfB
  rw [if_neg (gd_nI hs (by decide)), tn_nI (by omega), if_neg (by rw [hb]; decide), eb, if_neg (gd_nI hb6 (by decide)), tn_nI (by omega)]
theorem c_alike {a b : Nat} (ha : a < 6) (hb : b < 6) (sg : Nat → Int32) : mX1_signedAlike sg (nI a) (nI b) = some (if sg a = sg b then 1 else 0) := by
  unfold mX1_signedAlike
  rw [if_neg (gd_nI ha (by decide)), if_neg (gd_nI hb (by decide)), tn_nI (by omega), tn_nI (by omega)]
  by_cases h : sg a = sg b
  · rw [if_pos h, if_pos h]
  · rw [if_neg h, if_neg h]
/-- the wider of two names -/
def wideS (wd : Nat → Int32) (a b : Nat) : Int32 := if wd a < wd b then wd b else wd a
theorem c_rests {a b : Nat} (ha : a < 6) (hb : b < 6) (wd : Nat → Int32) (x y : Int64) : mX1_belowByRests wd (nI a) (nI b) x y = some (if (y &&& (((1 : Int64) <<< ((wideS wd a b).toInt64 &&& 63)) - 1)) ≤ (x &&& (((1 : Int64) <<< ((wideS wd a b).toInt64 &&& 63)) - 1)) then 0 else 1) := by
  unfold mX1_belowByRests mX1_rest wideS
  rw [if_neg (gd_nI ha (by decide)), if_neg (gd_nI hb (by decide)), tn_nI (by omega), tn_nI (by omega), Option.bind_some, Option.bind_some]
  exact ite_some _ _ _
theorem shift_eq (x : Int64) {k : Nat} (hk : k < 64) : x <<< (((nI k).toInt64.toInt32).toInt64 &&& 63) = x * ((1 : Int64) <<< ((nI k).toInt64 &&& 63)) := by
  rw [lg_l2i_i2l, pw1 hk]
  obtain ⟨n, hn, rfl⟩ := wb_of x
  rw [wb_shl n hk, lN_mul]
/-- a step that runs do (kinds 0 to 7), as both sides hold it -/
def SpR (kd tg sa sb bn zk zt za zb : Nat → Int32) (s : Nat) : Prop := kd s = zk s ∧ sb s = zb s ∧ tg s = zt s ∧ (∃ t, t < 6 ∧ tg s = nI t) ∧ (∃ a, a < 6 ∧ sa s = nI a) ∧
  ((zk s = 0 ∧ bn s = 0) ∨ (zk s = 1 ∧ bn s = 0 ∧ za s = sa s) ∨ (zk s = 5 ∧ bn s = 0 ∧ za s = sa s ∧ ∃ k, k ≤ 12 ∧ zb s = nI k) ∨ ((zk s = 2 ∨ zk s = 3 ∨ zk s = 4 ∨ zk s = 6 ∨ zk s = 7) ∧ bn s = 1 ∧ za s = sa s ∧ ∃ b, b < 6 ∧ zb s = nI b))
theorem rest_wide {zw : Nat → Int32} {a b : Nat} (ha : ∃ k, 2 ≤ k ∧ k ≤ 31 ∧ zw a = nI k) (hb : ∃ k, 2 ≤ k ∧ k ≤ 31 ∧ zw b = nI k) (v : Int64) : mX8_rest v ((1 : Int64) <<< ((wideS zw a b).toInt64 &&& 63)) = some (v &&& (((1 : Int64) <<< ((wideS zw a b).toInt64 &&& 63)) - 1)) := by
  obtain ⟨k, -, h3, e⟩ := ha
  obtain ⟨k', -, h3', e'⟩ := hb
  unfold wideS
  split
  · rw [e']; exact rest_eq h3' v
  · rw [e]; exact rest_eq h3 v
theorem m_below {zw zs za zb : Nat → Int32} {s a b : Nat} (hs : s < 24) (ea : za s = nI a) (ha : a < 6) (eb : zb s = nI b) (hb : b < 6) (hwa : ∃ k, 2 ≤ k ∧ k ≤ 31 ∧ zw a = nI k) (hwb : ∃ k, 2 ≤ k ∧ k ≤ 31 ∧ zw b = nI k) (zv : Nat → Int64) : mX8_belowOf zw zs za zb zv (nI s) = some (if zs a = zs b then (if zv b ≤ zv a then 0 else 1) else (if (zv b &&& (((1 : Int64) <<< ((wideS zw a b).toInt64 &&& 63)) - 1)) ≤ (zv a &&& (((1 : Int64) <<< ((wideS zw a b).toInt64 &&& 63)) - 1)) then 0 else 1)) := by
  unfold mX8_belowOf
  rw [if_neg (gd_nI hs (by decide)), tn_nI (by omega), ea, eb, if_neg (gd_nI ha (by decide)), if_neg (gd_nI hb (by decide)), tn_nI (by omega), tn_nI (by omega)]
  by_cases h : zs a = zs b
  · rw [if_pos h, if_pos h]
    by_cases h2 : zv b ≤ zv a
    · rw [if_pos h2, if_pos h2]
    · rw [if_neg h2, if_neg h2]
  · rw [if_neg h, if_neg h]
    have r1 := rest_wide hwa hwb (zv a)
    have r2 := rest_wide hwa hwb (zv b)
    unfold wideS at r1 r2 ⊢
    rw [r1, Option.bind_some, r2, Option.bind_some]
    exact ite_some _ _ _
/-- what a step makes, and whether it is turned: the same on both sides -/
theorem val_rel {nr : Int32} {wd sg : Nat → Int32} {lw hg : Nat → Int64} {zm : Int32} {zw zs : Nat → Int32} (hN : NmR nr wd sg lw hg zm zw zs) {kd tg sa sb bn zk zt za zb : Nat → Int32} {s : Nat} (hs : s < 24) (hp : SpR kd tg sa sb bn zk zt za zb s) {rv zv : Nat → Int64} (hv : ∀ n, n < 6 → rv n = zv n) (tb : Int32) :
    ∃ (v : Int64) (t : Bool), mX8_valueOf zw zs zk za zb zv (nI s) = some v ∧ mX3_answer wd sg kd sa sb bn tb rv (nI s) = some (v, if t = true then tb ||| ((1 : Int32) <<< (nI s &&& 31)) else tb) ∧
      (¬ zk s = 7 → t = false) ∧ (zk s = 7 → ∃ a b, a < 6 ∧ b < 6 ∧ za s = nI a ∧ zb s = nI b ∧ (v = 0 ∨ v = 1) ∧ (t = true ↔ ¬ (v = if zv b ≤ zv a then 0 else 1))) := by
  obtain ⟨ek, eb, et, -, ⟨a, ha, ea⟩, hc⟩ := hp
  have hg := gd_nI hs (show 24 < 2147483648 by decide)
  have htn := tn_nI (show s < 2147483648 by omega)
  rcases hc with ⟨k0, b0⟩ | ⟨k1, b0, eza⟩ | ⟨k5, b0, eza, k, hk, ezb⟩ | ⟨kk, b1, eza, b, hb, ezb⟩
  · refine ⟨(sb s).toInt64, false, ?_, ?_, fun _ => rfl, fun h => absurd (k0.symm.trans h) (by decide)⟩
    · unfold mX8_valueOf
      rw [if_neg hg, htn, k0, if_pos rfl, eb]
    · unfold mX3_answer
      rw [if_neg hg, c_valA hs ea ha, c_valB0 hs b0, htn, ek, k0, Option.bind_some, Option.bind_some, made0, Option.bind_some, if_neg (by decide)]
      rfl
  · refine ⟨zv a, false, ?_, ?_, fun _ => rfl, fun h => absurd (k1.symm.trans h) (by decide)⟩
    · unfold mX8_valueOf
      rw [if_neg hg, htn, k1, if_neg (by decide), if_pos rfl, eza, ea, if_neg (gd_nI ha (by decide)), tn_nI (by omega)]
    · unfold mX3_answer
      rw [if_neg hg, c_valA hs ea ha, c_valB0 hs b0, htn, ek, k1, Option.bind_some, Option.bind_some, made1, Option.bind_some, if_neg (by decide), hv a ha]
      rfl
  · refine ⟨zv a * ((1 : Int64) <<< ((zb s).toInt64 &&& 63)), false, ?_, ?_, fun _ => rfl, fun h => absurd (k5.symm.trans h) (by decide)⟩
    · unfold mX8_valueOf
      rw [if_neg hg, htn, k5, if_neg (by decide), if_neg (by decide), if_neg (by decide), if_neg (by decide), if_neg (by decide), if_pos rfl, eza, ea, if_neg (gd_nI ha (by decide)), tn_nI (by omega)]
    · unfold mX3_answer
      rw [if_neg hg, c_valA hs ea ha, c_valB0 hs b0, htn, ek, k5, Option.bind_some, Option.bind_some, made5, Option.bind_some, if_neg (by decide), eb, ezb, shift_eq _ (by omega), hv a ha]
      rfl
  · have eb' : sb s = nI b := eb.trans ezb
    have ga := gd_nI ha (show 6 < 2147483648 by decide)
    have gb := gd_nI hb (show 6 < 2147483648 by decide)
    have ta := tn_nI (show a < 2147483648 by omega)
    have tb' := tn_nI (show b < 2147483648 by omega)
    rcases kk with k2 | k2 | k2 | k2 | k2
    · refine ⟨zv a + zv b, false, ?_, ?_, fun _ => rfl, fun h => absurd (k2.symm.trans h) (by decide)⟩
      · unfold mX8_valueOf
        rw [if_neg hg, htn, k2, if_neg (by decide), if_neg (by decide), if_pos rfl, eza, ea, ezb, if_neg ga, if_neg gb, ta, tb']
      · unfold mX3_answer
        rw [if_neg hg, c_valA hs ea ha, c_valB1 hs b1 eb' hb, htn, ek, k2, Option.bind_some, Option.bind_some, made2, Option.bind_some, if_neg (by decide), hv a ha, hv b hb]
        rfl
    · refine ⟨zv a - zv b, false, ?_, ?_, fun _ => rfl, fun h => absurd (k2.symm.trans h) (by decide)⟩
      · unfold mX8_valueOf
        rw [if_neg hg, htn, k2, if_neg (by decide), if_neg (by decide), if_neg (by decide), if_pos rfl, eza, ea, ezb, if_neg ga, if_neg gb, ta, tb']
      · unfold mX3_answer
        rw [if_neg hg, c_valA hs ea ha, c_valB1 hs b1 eb' hb, htn, ek, k2, Option.bind_some, Option.bind_some, made3, Option.bind_some, if_neg (by decide), hv a ha, hv b hb]
        rfl
    · refine ⟨zv a * zv b, false, ?_, ?_, fun _ => rfl, fun h => absurd (k2.symm.trans h) (by decide)⟩
      · unfold mX8_valueOf
        rw [if_neg hg, htn, k2, if_neg (by decide), if_neg (by decide), if_neg (by decide), if_neg (by decide), if_pos rfl, eza, ea, ezb, if_neg ga, if_neg gb, ta, tb']
      · unfold mX3_answer
        rw [if_neg hg, c_valA hs ea ha, c_valB1 hs b1 eb' hb, htn, ek, k2, Option.bind_some, Option.bind_some, made4, Option.bind_some, if_neg (by decide), hv a ha, hv b hb]
        rfl
    · refine ⟨(if zv b < zv a then zv b else zv a), false, ?_, ?_, fun _ => rfl, fun h => absurd (k2.symm.trans h) (by decide)⟩
      · unfold mX8_valueOf
        rw [if_neg hg, htn, k2, if_neg (by decide), if_neg (by decide), if_neg (by decide), if_neg (by decide), if_neg (by decide), if_neg (by decide), if_pos rfl, eza, ea, ezb, if_neg ga, if_neg gb, ta, tb']
      · unfold mX3_answer
        rw [if_neg hg, c_valA hs ea ha, c_valB1 hs b1 eb' hb, htn, ek, k2, Option.bind_some, Option.bind_some, made6, Option.bind_some, if_neg (by decide), hv a ha, hv b hb]
        rfl
    · obtain ⟨-, -, hn6⟩ := hN
      obtain ⟨ewa, esa, -, hwa, -⟩ := hn6 a ha
      obtain ⟨ewb, esb, -, hwb, -⟩ := hn6 b hb
      have hW : wideS wd a b = wideS zw a b := by unfold wideS; rw [ewa, ewb]
      have hm := m_below (zs := zs) hs (eza.trans ea) ha ezb hb hwa hwb zv
      have hval : mX8_valueOf zw zs zk za zb zv (nI s) = some (if zs a = zs b then (if zv b ≤ zv a then 0 else 1) else (if (zv b &&& (((1 : Int64) <<< ((wideS zw a b).toInt64 &&& 63)) - 1)) ≤ (zv a &&& (((1 : Int64) <<< ((wideS zw a b).toInt64 &&& 63)) - 1)) then 0 else 1)) := by
        unfold mX8_valueOf
        rw [if_neg hg, htn, k2, if_neg (by decide), if_neg (by decide), if_neg (by decide), if_neg (by decide), if_neg (by decide), if_neg (by decide), if_neg (by decide), hm, Option.bind_some]
        by_cases h1 : zs a = zs b
        · rw [if_pos h1, if_pos h1]
          by_cases h2 : zv b ≤ zv a
          · rw [if_pos h2, if_pos h2, if_pos rfl]
          · rw [if_neg h2, if_neg h2, if_neg (by decide)]
        · rw [if_neg h1, if_neg h1]
          split
          · rw [if_pos rfl]
          · rw [if_neg (by decide)]
      have h01 : ∀ (c : Prop) [Decidable c], (if c then (0 : Int64) else 1) = 0 ∨ (if c then (0 : Int64) else 1) = 1 := fun c _ => by
        by_cases h : c
        · rw [if_pos h]; exact Or.inl rfl
        · rw [if_neg h]; exact Or.inr rfl
      by_cases h1 : zs a = zs b
      · refine ⟨if zv b ≤ zv a then 0 else 1, false, ?_, ?_, fun _ => rfl, fun _ => ⟨a, b, ha, hb, eza.trans ea, ezb, h01 _, ?_⟩⟩
        · rw [hval, if_pos h1]
        · unfold mX3_answer
          rw [if_neg hg, c_valA hs ea ha, c_valB1 hs b1 eb' hb, htn, ek, k2, Option.bind_some, Option.bind_some, made7, Option.bind_some, if_pos rfl, ea, eb', c_alike ha hb, esa, esb, if_pos h1, Option.bind_some, if_neg (by decide), hv a ha, hv b hb]
          rfl
        · constructor
          · intro h; cases h
          · intro h; exact absurd rfl h
      · refine ⟨if (zv b &&& (((1 : Int64) <<< ((wideS zw a b).toInt64 &&& 63)) - 1)) ≤ (zv a &&& (((1 : Int64) <<< ((wideS zw a b).toInt64 &&& 63)) - 1)) then 0 else 1, decide (¬ (if (zv b &&& (((1 : Int64) <<< ((wideS zw a b).toInt64 &&& 63)) - 1)) ≤ (zv a &&& (((1 : Int64) <<< ((wideS zw a b).toInt64 &&& 63)) - 1)) then (0 : Int64) else 1) = if zv b ≤ zv a then 0 else 1), ?_, ?_, fun h => absurd k2 h, fun _ => ⟨a, b, ha, hb, eza.trans ea, ezb, h01 _, by rw [decide_eq_true_iff]⟩⟩
        · rw [hval, if_neg h1]
        · unfold mX3_answer
          rw [if_neg hg, c_valA hs ea ha, c_valB1 hs b1 eb' hb, htn, ek, k2, Option.bind_some, Option.bind_some, made7, Option.bind_some, if_pos rfl, ea, eb', c_alike ha hb, esa, esb, if_neg h1, Option.bind_some, if_pos rfl, c_rests ha hb, Option.bind_some, hW, hv a ha, hv b hb]
          generalize (if (zv b &&& (((1 : Int64) <<< ((wideS zw a b).toInt64 &&& 63)) - 1)) ≤ (zv a &&& (((1 : Int64) <<< ((wideS zw a b).toInt64 &&& 63)) - 1)) then (0 : Int64) else 1) = z1
          generalize (if zv b ≤ zv a then (0 : Int64) else 1) = z2
          by_cases h3 : z1 = z2
          · rw [if_pos h3, if_neg (by simp [h3])]
          · rw [if_neg h3, if_pos (by simp [h3])]
