/-! ===== the whole state of both sides, and what each call does to it ===== -/
def MtR (N : Nat) (mt zq : Nat → Int32) : Prop := (∀ s, s < N → mt s = zq s ∧ (zq s = 0 ∨ zq s = 1)) ∧ ∀ s, N ≤ s → s < 24 → mt s = 0
def Inv (nr : Int32) (wd : Nat → Int32) (sg : Nat → Int32) (lw : Nat → Int64) (hg : Nat → Int64) (fr : Nat → Int32) (to : Nat → Int32) (sn : Int32) (pl : Int32) (kd : Nat → Int32) (tg : Nat → Int32) (sa : Nat → Int32) (sb : Nat → Int32) (bn : Nat → Int32) (mt : Nat → Int32) (pa : Nat → Int32) (ro : Int32) (tk : Int32) (ov : Nat → Int32) (sh : Nat → Int32) (tu : Nat → Int32) (rk : Int32) (cb : Int32) (rl : Nat → Int64) (rg : Nat → Int64) (tf : Int32) (kn : Int32) (tl : Nat → Int64) (th : Nat → Int64) (zn : Int32) (zm : Int32) (zw : Nat → Int32) (zs : Nat → Int32) (zfr : Nat → Int32) (zto : Nat → Int32) (zk : Nat → Int32) (zt : Nat → Int32) (za : Nat → Int32) (zb : Nat → Int32) (zq : Nat → Int32) : Prop := ∃ N d0 d1 : Nat, sn = nI N ∧ zn = nI N ∧ NmR nr wd sg lw hg zm zw zs ∧ InR d0 d1 fr to zfr zto ∧ StR N kd tg sa sb bn zk zt za zb ∧ MtR N mt zq ∧ PathI N pl pa kd tg sa sb bn zk zt za zb ∧ (tk = 0 ∨ (tk = 1 ∧ TaOK N ((d0 + 1) * (d1 + 1)) ro ov sh tu zm zw zs zfr zto zk zt za zb)) ∧ (rk = 0 ∨ (rk = 1 ∧ RcOK N cb rl rg zm zw zs zfr zto zk zt za zb)) ∧ (kn = 0 ∨ (kn = 1 ∧ TrOK N tf tl th zw zs zfr zto zk zt za zb))
/-! small answers -/
theorem lt64x (x : Int32) (a b : Int64) : mX8_in x.toInt64 a b = some (if x.toInt < a.toInt ∨ b.toInt < x.toInt then 0 else 1) := by
  rw [m_in]
  have e : (x.toInt64 < a ∨ b < x.toInt64) ↔ (x.toInt < a.toInt ∨ b.toInt < x.toInt) := by rw [Int64.lt_iff_toInt_lt, Int64.lt_iff_toInt_lt, Kit.i64_of_i32]
  by_cases h : x.toInt < a.toInt ∨ b.toInt < x.toInt
  · rw [if_pos h, if_pos (e.mpr h)]
  · rw [if_neg h, if_neg (fun z => h (e.mp z))]
theorem of_rng {x : Int32} {n : Nat} (h0 : 0 ≤ x.toInt) (h1 : x.toInt < n) (hn : n ≤ 2147483648) : ∃ k, k < n ∧ x = nI k := by
  refine ⟨x.toInt.toNat, by omega, Int32.toInt_inj.mp ?_⟩
  rw [nI_toInt (by omega)]
  omega
/-- is it a NAME? both sides -/
theorem isName_rel (x : Int32) : (mX7_isName x = some 0 ∧ mX8_isName x = some 0) ∨ (∃ n, n < 6 ∧ x = nI n ∧ mX7_isName x = some 1 ∧ mX8_isName x = some 1) := by
  unfold mX7_isName mX8_isName
  rw [lt64x]
  have k0 : (0 : Int64).toInt = 0 := by decide
  have k5 : (5 : Int64).toInt = 5 := by decide
  have j0 : (0 : Int32).toInt = 0 := by decide
  have j6 : (6 : Int32).toInt = 6 := by decide
  rw [k0, k5, Option.bind_some]
  by_cases h : x.toInt < 0 ∨ 5 < x.toInt
  · refine Or.inl ⟨?_, ?_⟩
    · by_cases h1 : x < 0
      · rw [if_pos h1]
      · rw [if_neg h1, if_pos (show 6 ≤ x by rw [Int32.le_iff_toInt_le, j6]; rw [Int32.lt_iff_toInt_lt, j0] at h1; omega)]
    · rw [if_pos h, if_neg (by decide)]
  · obtain ⟨n, hn, e⟩ := of_rng (x := x) (n := 6) (by omega) (by omega) (by decide)
    refine Or.inr ⟨n, hn, e, ?_, ?_⟩
    · rw [if_neg (show ¬ x < 0 by rw [Int32.lt_iff_toInt_lt, j0]; omega), if_neg (show ¬ 6 ≤ x by rw [Int32.le_iff_toInt_le, j6]; omega)]
    · rw [if_neg h, if_neg (by decide)]
/-- is it a STEP? both sides -/
theorem isStep_rel {N : Nat} (hN : N ≤ 24) (x : Int32) : (mX7_isStep (nI N) x = some 0 ∧ mX8_isStep (nI N) x = some 0) ∨ (∃ s, s < N ∧ x = nI s ∧ mX7_isStep (nI N) x = some 1 ∧ mX8_isStep (nI N) x = some 1) := by
  unfold mX7_isStep mX8_isStep
  rw [lt64x]
  have k0 : (0 : Int64).toInt = 0 := by decide
  have j0 : (0 : Int32).toInt = 0 := by decide
  have jN := nI_toInt (n := N) (by omega)
  have kN : (nI N - 1).toInt64.toInt = (N : Int) - 1 := by
    have j1 : (1 : Int32).toInt = 1 := by decide
    rw [Kit.i64_of_i32, Kit.i32_sub (by rw [jN, j1]; omega) (by rw [jN, j1]; omega), jN, j1]
  rw [k0, kN, Option.bind_some]
  by_cases h : x.toInt < 0 ∨ (N : Int) - 1 < x.toInt
  · refine Or.inl ⟨?_, ?_⟩
    · by_cases h1 : x < 0
      · rw [if_pos h1]
      · rw [if_neg h1, if_pos (show nI N ≤ x by rw [Int32.le_iff_toInt_le, jN]; rw [Int32.lt_iff_toInt_lt, j0] at h1; omega)]
    · rw [if_pos h, if_neg (by decide)]
  · obtain ⟨n, hn, e⟩ := of_rng (x := x) (n := N) (by omega) (by omega) (by omega)
    refine Or.inr ⟨n, hn, e, ?_, ?_⟩
    · rw [if_neg (show ¬ x < 0 by rw [Int32.lt_iff_toInt_lt, j0]; omega), if_neg (show ¬ nI N ≤ x by rw [Int32.le_iff_toInt_le, jN]; omega)]
    · rw [if_neg h, if_neg (by decide)]
theorem nar_b {x : Int32} (h : x = 0 ∨ x = 1) : vp_nar .boolean x = x := by rcases h with rfl | rfl <;> rfl
theorem c_least (k : Int32) (g : Int32) : mX7_leastOf k g = some (lowS k g) := by
  unfold mX7_leastOf lowS
  by_cases h : g = 0
  · rw [if_pos h, if_pos h]
  · rw [if_neg h, if_neg h]
theorem c_great (k : Int32) (g : Int32) : mX7_greatestOf k g = some (highS k g) := by
  unfold mX7_greatestOf highS
  by_cases h : g = 0
  · rw [if_pos h, if_pos h]
  · rw [if_neg h, if_neg h]
theorem c_tell {n : Nat} (hn : n < 6) (wd sg : Nat → Int32) (lw hg : Nat → Int64) (w g : Int32) : mX1_tell wd sg lw hg (nI n) w g = some (upd wd n w, upd sg n (vp_nar .boolean g), vp_updL lw n (lowS w g), vp_updL hg n (highS w g)) := by
  unfold mX1_tell
  rw [if_neg (gd_nI hn (by decide)), c_least, Option.bind_some, c_great, Option.bind_some, tn_nI (by omega)]
theorem NmR.tell {nr : Int32} {wd sg : Nat → Int32} {lw hg : Nat → Int64} {zm : Int32} {zw zs : Nat → Int32} (h : NmR nr wd sg lw hg zm zw zs) {n k : Nat} (h2 : 2 ≤ k) (h3 : k ≤ 31) {g : Int32} (hg01 : g = 0 ∨ g = 1) : NmR nr (upd wd n (nI k)) (upd sg n g) (vp_updL lw n (lowS (nI k) g)) (vp_updL hg n (highS (nI k) g)) zm (upd zw n (nI k)) (upd zs n g) := by
  obtain ⟨e, hm, hN⟩ := h
  refine ⟨e, hm, fun j hj => ?_⟩
  unfold upd vp_updL
  by_cases q : j = n
  · rw [if_pos q, if_pos q, if_pos q, if_pos q, if_pos q, if_pos q]
    exact ⟨rfl, rfl, hg01, ⟨k, h2, h3, rfl⟩, rfl, rfl⟩
  · rw [if_neg q, if_neg q, if_neg q, if_neg q, if_neg q, if_neg q]
    exact hN j hj
theorem p_name {nr : Int32} {wd : Nat → Int32} {sg : Nat → Int32} {lw : Nat → Int64} {hg : Nat → Int64} {fr : Nat → Int32} {to : Nat → Int32} {sn : Int32} {pl : Int32} {kd : Nat → Int32} {tg : Nat → Int32} {sa : Nat → Int32} {sb : Nat → Int32} {bn : Nat → Int32} {mt : Nat → Int32} {pa : Nat → Int32} {ro : Int32} {tk : Int32} {ov : Nat → Int32} {sh : Nat → Int32} {tu : Nat → Int32} {rk : Int32} {cb : Int32} {rl : Nat → Int64} {rg : Nat → Int64} {tf : Int32} {kn : Int32} {tl : Nat → Int64} {th : Nat → Int64} {zn : Int32} {zm : Int32} {zw : Nat → Int32} {zs : Nat → Int32} {zfr : Nat → Int32} {zto : Nat → Int32} {zk : Nat → Int32} {zt : Nat → Int32} {za : Nat → Int32} {zb : Nat → Int32} {zq : Nat → Int32} (h : Inv nr wd sg lw hg fr to sn pl kd tg sa sb bn mt pa ro tk ov sh tu rk cb rl rg tf kn tl th zn zm zw zs zfr zto zk zt za zb zq) (x1 x2 x3 : Int32) (h3 : x3 = 0 ∨ x3 = 1) : ∃ (r : Int32) (wd' : Nat → Int32) (sg' : Nat → Int32) (lw' : Nat → Int64) (hg' : Nat → Int64) (tk' : Int32) (rk' : Int32) (kn' : Int32) (zw' : Nat → Int32) (zs' : Nat → Int32), mX7_name wd sg lw hg tk rk kn x1 x2 x3 = some (r, wd', sg', lw', hg', tk', rk', kn') ∧ mX8_name zw zs x1 x2 x3 = some (r, zw', zs') ∧ Inv nr wd' sg' lw' hg' fr to sn pl kd tg sa sb bn mt pa ro tk' ov sh tu rk' cb rl rg tf kn' tl th zn zm zw' zs' zfr zto zk zt za zb zq := by
  have h0 := h
  obtain ⟨N, d0, d1, rfl, rfl, hN, hI, hS, hM, hP, hT, hR, hU⟩ := h
  have k2 : (2 : Int64).toInt = 2 := by decide
  have k31 : (31 : Int64).toInt = 31 := by decide
  have j2 : (2 : Int32).toInt = 2 := by decide
  have j31 : (31 : Int32).toInt = 31 := by decide
  unfold mX7_name mX8_name
  rcases isName_rel x1 with ⟨e1, e2⟩ | ⟨n, hn, rfl, e1, e2⟩
  · rw [e1, e2, Option.bind_some, Option.bind_some, if_pos rfl, if_pos rfl]
    exact ⟨_, _, _, _, _, _, _, _, _, _, rfl, rfl, h0⟩
  · rw [e1, e2, Option.bind_some, Option.bind_some, if_neg (show ¬ (1 : Int32) = 0 by decide), if_neg (show ¬ (1 : Int32) = 0 by decide), lt64x, k2, k31, Option.bind_some]
    by_cases hw : x2.toInt < 2 ∨ 31 < x2.toInt
    · rw [if_pos hw, if_pos (show (0 : Int32) = 0 from rfl)]
      refine ⟨0, wd, sg, lw, hg, tk, rk, kn, zw, zs, ?_, rfl, h0⟩
      by_cases q : x2 < 2
      · rw [if_pos q]
      · rw [if_neg q, if_neg (show ¬ x2 ≤ 31 by rw [Int32.le_iff_toInt_le, j31]; rw [Int32.lt_iff_toInt_lt, j2] at q; omega)]
    · obtain ⟨k, hk, rfl⟩ := of_rng (x := x2) (n := 32) (by omega) (by omega) (by decide)
      have hki := nI_toInt (n := k) (by omega)
      rw [hki] at hw
      rw [if_neg (show ¬ ((nI k).toInt < 2 ∨ 31 < (nI k).toInt) by rw [hki]; exact hw), if_neg (show ¬ (1 : Int32) = 0 by decide), if_neg (gd_nI hn (by decide)), tn_nI (by omega), if_neg (show ¬ nI k < 2 by rw [Int32.lt_iff_toInt_lt, j2, hki]; omega), if_pos (show nI k ≤ 31 by rw [Int32.le_iff_toInt_le, j31, hki]; omega), c_tell hn, Option.bind_some, nar_b h3]
      exact ⟨_, _, _, _, _, _, _, _, _, _, rfl, rfl, N, d0, d1, rfl, rfl, hN.tell (by omega) (by omega) h3, hI, hS, hM, hP, Or.inl rfl, Or.inl rfl, Or.inl rfl⟩
theorem isTold_c (x : Int32) : mX7_isTold x = some (if x.toInt < -100000 ∨ 100000 < x.toInt then 0 else 1) := by
  have j1 : (-100000 : Int32).toInt = -100000 := by decide
  have j2 : (100000 : Int32).toInt = 100000 := by decide
  unfold mX7_isTold
  by_cases h1 : x < -100000
  · rw [if_pos h1]
    rw [Int32.lt_iff_toInt_lt, j1] at h1
    rw [if_pos (Or.inl h1)]
  · rw [if_neg h1]
    rw [Int32.lt_iff_toInt_lt, j1] at h1
    by_cases h2 : 100000 < x
    · rw [if_pos h2]
      rw [Int32.lt_iff_toInt_lt, j2] at h2
      rw [if_pos (Or.inr h2)]
    · rw [if_neg h2]
      rw [Int32.lt_iff_toInt_lt, j2] at h2
      rw [if_neg (by omega)]
theorem InR.set {d0 d1 : Nat} {fr to zfr zto : Nat → Int32} (h : InR d0 d1 fr to zfr zto) {i d : Nat} (hi : i < 2) (hd : d ≤ 31) {a b : Int32} (h1 : -100000 ≤ a.toInt) (h2 : b.toInt ≤ 100000) (h3 : b.toInt = a.toInt + d) : ∃ d0' d1', InR d0' d1' (upd fr i a) (upd to i b) (upd zfr i a) (upd zto i b) := by
  obtain ⟨p1, p2, f0, f1, t0, t1, q0, q1⟩ := h
  rcases (show i = 0 ∨ i = 1 by omega) with rfl | rfl
  · refine ⟨d, d1, hd, p2, ?_⟩
    unfold upd
    rw [if_pos rfl, if_pos rfl, if_pos rfl, if_pos rfl, if_neg (by decide), if_neg (by decide), if_neg (by decide), if_neg (by decide)]
    exact ⟨rfl, f1, rfl, t1, ⟨h1, h2, h3⟩, q1⟩
  · refine ⟨d0, d, p1, hd, ?_⟩
    unfold upd
    rw [if_pos rfl, if_pos rfl, if_pos rfl, if_pos rfl, if_neg (by decide), if_neg (by decide), if_neg (by decide), if_neg (by decide)]
    exact ⟨f0, rfl, t0, rfl, q0, ⟨h1, h2, h3⟩⟩
theorem p_span {nr : Int32} {wd : Nat → Int32} {sg : Nat → Int32} {lw : Nat → Int64} {hg : Nat → Int64} {fr : Nat → Int32} {to : Nat → Int32} {sn : Int32} {pl : Int32} {kd : Nat → Int32} {tg : Nat → Int32} {sa : Nat → Int32} {sb : Nat → Int32} {bn : Nat → Int32} {mt : Nat → Int32} {pa : Nat → Int32} {ro : Int32} {tk : Int32} {ov : Nat → Int32} {sh : Nat → Int32} {tu : Nat → Int32} {rk : Int32} {cb : Int32} {rl : Nat → Int64} {rg : Nat → Int64} {tf : Int32} {kn : Int32} {tl : Nat → Int64} {th : Nat → Int64} {zn : Int32} {zm : Int32} {zw : Nat → Int32} {zs : Nat → Int32} {zfr : Nat → Int32} {zto : Nat → Int32} {zk : Nat → Int32} {zt : Nat → Int32} {za : Nat → Int32} {zb : Nat → Int32} {zq : Nat → Int32} (h : Inv nr wd sg lw hg fr to sn pl kd tg sa sb bn mt pa ro tk ov sh tu rk cb rl rg tf kn tl th zn zm zw zs zfr zto zk zt za zb zq) (x1 x2 x3 : Int32) : ∃ (r : Int32) (fr' : Nat → Int32) (to' : Nat → Int32) (tk' : Int32) (rk' : Int32) (kn' : Int32) (zfr' : Nat → Int32) (zto' : Nat → Int32), mX7_span fr to tk rk kn x1 x2 x3 = some (r, fr', to', tk', rk', kn') ∧ mX8_span zfr zto x1 x2 x3 = some (r, zfr', zto') ∧ Inv nr wd sg lw hg fr' to' sn pl kd tg sa sb bn mt pa ro tk' ov sh tu rk' cb rl rg tf kn' tl th zn zm zw zs zfr' zto' zk zt za zb zq := by
  have h0 := h
  obtain ⟨N, d0, d1, rfl, rfl, hN, hI, hS, hM, hP, hT, hR, hU⟩ := h
  have k0 : (0 : Int64).toInt = 0 := by decide
  have k1 : (1 : Int64).toInt = 1 := by decide
  have km : (-100000 : Int64).toInt = -100000 := by decide
  have kp : (100000 : Int64).toInt = 100000 := by decide
  have j0 : (0 : Int32).toInt = 0 := by decide
  have j2 : (2 : Int32).toInt = 2 := by decide
  have j31 : (31 : Int32).toInt = 31 := by decide
  have j32 : (32 : Int32).toInt = 32 := by decide
  unfold mX7_span mX8_span
  rw [lt64x, k0, k1, Option.bind_some, isTold_c, Option.bind_some, isTold_c, Option.bind_some, lt64x, km, kp, Option.bind_some, lt64x, kp, Kit.i64_of_i32, Option.bind_some]
  by_cases a1 : x1.toInt < 0 ∨ 1 < x1.toInt
  · rw [if_pos a1, if_pos (show (0 : Int32) = 0 from rfl)]
    refine ⟨_, _, _, _, _, _, _, _, ?_, rfl, h0⟩
    by_cases q : x1 < 0
    · rw [if_pos q]
    · rw [if_neg q, if_pos (show 2 ≤ x1 by rw [Int32.le_iff_toInt_le, j2]; rw [Int32.lt_iff_toInt_lt, j0] at q; omega)]
  · rw [if_neg a1, if_neg (show ¬ (1 : Int32) = 0 by decide), if_neg (show ¬ x1 < 0 by rw [Int32.lt_iff_toInt_lt, j0]; omega), if_neg (show ¬ 2 ≤ x1 by rw [Int32.le_iff_toInt_le, j2]; omega)]
    by_cases a2 : x2.toInt < -100000 ∨ 100000 < x2.toInt
    · rw [if_pos a2, if_pos (show (0 : Int32) = 0 from rfl), if_pos (show (0 : Int32) = 0 from rfl)]
      exact ⟨_, _, _, _, _, _, _, _, rfl, rfl, h0⟩
    · rw [if_neg a2, if_neg (show ¬ (1 : Int32) = 0 by decide), if_neg (show ¬ (1 : Int32) = 0 by decide)]
      by_cases a3 : x3.toInt < x2.toInt ∨ 100000 < x3.toInt
      · rw [if_pos a3, if_pos (show (0 : Int32) = 0 from rfl)]
        refine ⟨_, _, _, _, _, _, _, _, ?_, rfl, h0⟩
        by_cases q : x3.toInt < -100000 ∨ 100000 < x3.toInt
        · rw [if_pos q, if_pos (show (0 : Int32) = 0 from rfl)]
        · rw [if_neg q, if_neg (show ¬ (1 : Int32) = 0 by decide), if_pos (show x3 < x2 by rw [Int32.lt_iff_toInt_lt]; omega)]
      · have hsub : (x3 - x2).toInt = x3.toInt - x2.toInt := Kit.i32_sub (by omega) (by omega)
        rw [if_neg a3, if_neg (show ¬ (1 : Int32) = 0 by decide), if_neg (show ¬ (x3.toInt < -100000 ∨ 100000 < x3.toInt) by omega), if_neg (show ¬ (1 : Int32) = 0 by decide), if_neg (show ¬ x3 < x2 by rw [Int32.lt_iff_toInt_lt]; omega)]
        by_cases a4 : x3.toInt - x2.toInt ≤ 31
        · obtain ⟨i, hi, rfl⟩ := of_rng (x := x1) (n := 2) (by omega) (by omega) (by decide)
          rw [if_pos (show x3 - x2 ≤ 31 by rw [Int32.le_iff_toInt_le, hsub, j31]; exact a4), if_pos (show x3 - x2 < 32 by rw [Int32.lt_iff_toInt_lt, hsub, j32]; omega), if_neg (gd_nI hi (by decide)), if_neg (gd_nI hi (by decide)), tn_nI (by omega)]
          obtain ⟨d0', d1', hI'⟩ := hI.set hi (d := (x3.toInt - x2.toInt).toNat) (by omega) (a := x2) (b := x3) (by omega) (by omega) (by omega)
          exact ⟨_, _, _, _, _, _, _, _, rfl, rfl, N, d0', d1', rfl, rfl, hN, hI', hS, hM, hP, Or.inl rfl, Or.inl rfl, Or.inl rfl⟩
        · rw [if_neg (show ¬ x3 - x2 ≤ 31 by rw [Int32.le_iff_toInt_le, hsub, j31]; exact a4), if_neg (show ¬ x3 - x2 < 32 by rw [Int32.lt_iff_toInt_lt, hsub, j32]; omega)]
          exact ⟨_, _, _, _, _, _, _, _, rfl, rfl, h0⟩
theorem p_mode {nr : Int32} {wd : Nat → Int32} {sg : Nat → Int32} {lw : Nat → Int64} {hg : Nat → Int64} {fr : Nat → Int32} {to : Nat → Int32} {sn : Int32} {pl : Int32} {kd : Nat → Int32} {tg : Nat → Int32} {sa : Nat → Int32} {sb : Nat → Int32} {bn : Nat → Int32} {mt : Nat → Int32} {pa : Nat → Int32} {ro : Int32} {tk : Int32} {ov : Nat → Int32} {sh : Nat → Int32} {tu : Nat → Int32} {rk : Int32} {cb : Int32} {rl : Nat → Int64} {rg : Nat → Int64} {tf : Int32} {kn : Int32} {tl : Nat → Int64} {th : Nat → Int64} {zn : Int32} {zm : Int32} {zw : Nat → Int32} {zs : Nat → Int32} {zfr : Nat → Int32} {zto : Nat → Int32} {zk : Nat → Int32} {zt : Nat → Int32} {za : Nat → Int32} {zb : Nat → Int32} {zq : Nat → Int32} (h : Inv nr wd sg lw hg fr to sn pl kd tg sa sb bn mt pa ro tk ov sh tu rk cb rl rg tf kn tl th zn zm zw zs zfr zto zk zt za zb zq) (x1 : Int32) : ∃ (r : Int32) (nr' : Int32) (tk' : Int32) (rk' : Int32) (kn' : Int32) (zm' : Int32), mX7_mode nr tk rk kn x1 = some (r, nr', tk', rk', kn') ∧ mX8_mode zm x1 = some (r, zm') ∧ Inv nr' wd sg lw hg fr to sn pl kd tg sa sb bn mt pa ro tk' ov sh tu rk' cb rl rg tf kn' tl th zn zm' zw zs zfr zto zk zt za zb zq := by
  have h0 := h
  obtain ⟨N, d0, d1, rfl, rfl, hN, hI, hS, hM, hP, hT, hR, hU⟩ := h
  have k0 : (0 : Int64).toInt = 0 := by decide
  have k1 : (1 : Int64).toInt = 1 := by decide
  unfold mX7_mode mX8_mode
  rw [lt64x, k0, k1, Option.bind_some]
  by_cases a0 : x1 = 0
  · subst a0
    rw [if_pos rfl, if_neg (show ¬ (0 : Int32) = 1 by decide), if_neg (show ¬ ((0 : Int32).toInt < 0 ∨ 1 < (0 : Int32).toInt) by decide), if_neg (show ¬ (1 : Int32) = 0 by decide)]
    exact ⟨_, _, _, _, _, _, rfl, rfl, N, d0, d1, rfl, rfl, ⟨rfl, Or.inl rfl, hN.2.2⟩, hI, hS, hM, hP, Or.inl rfl, Or.inl rfl, Or.inl rfl⟩
  · rw [if_neg a0]
    by_cases a1 : x1 = 1
    · subst a1
      rw [if_pos rfl, if_pos rfl, if_neg (show ¬ ((1 : Int32).toInt < 0 ∨ 1 < (1 : Int32).toInt) by decide), if_neg (show ¬ (1 : Int32) = 0 by decide)]
      exact ⟨_, _, _, _, _, _, rfl, rfl, N, d0, d1, rfl, rfl, ⟨rfl, Or.inr rfl, hN.2.2⟩, hI, hS, hM, hP, Or.inl rfl, Or.inl rfl, Or.inl rfl⟩
    · have hx : x1.toInt < 0 ∨ 1 < x1.toInt := by
        have e0 : x1.toInt ≠ 0 := fun z => a0 (Int32.toInt_inj.mp (by rw [z]; decide))
        have e1 : x1.toInt ≠ 1 := fun z => a1 (Int32.toInt_inj.mp (by rw [z]; decide))
        omega
      rw [if_neg a1, if_pos hx, if_pos (show (0 : Int32) = 0 from rfl)]
      exact ⟨_, _, _, _, _, _, rfl, rfl, h0⟩
theorem p_mean {nr : Int32} {wd : Nat → Int32} {sg : Nat → Int32} {lw : Nat → Int64} {hg : Nat → Int64} {fr : Nat → Int32} {to : Nat → Int32} {sn : Int32} {pl : Int32} {kd : Nat → Int32} {tg : Nat → Int32} {sa : Nat → Int32} {sb : Nat → Int32} {bn : Nat → Int32} {mt : Nat → Int32} {pa : Nat → Int32} {ro : Int32} {tk : Int32} {ov : Nat → Int32} {sh : Nat → Int32} {tu : Nat → Int32} {rk : Int32} {cb : Int32} {rl : Nat → Int64} {rg : Nat → Int64} {tf : Int32} {kn : Int32} {tl : Nat → Int64} {th : Nat → Int64} {zn : Int32} {zm : Int32} {zw : Nat → Int32} {zs : Nat → Int32} {zfr : Nat → Int32} {zto : Nat → Int32} {zk : Nat → Int32} {zt : Nat → Int32} {za : Nat → Int32} {zb : Nat → Int32} {zq : Nat → Int32} (h : Inv nr wd sg lw hg fr to sn pl kd tg sa sb bn mt pa ro tk ov sh tu rk cb rl rg tf kn tl th zn zm zw zs zfr zto zk zt za zb zq) (x1 x2 : Int32) (h2 : x2 = 0 ∨ x2 = 1) : ∃ (r : Int32) (mt' : Nat → Int32) (zq' : Nat → Int32), mX7_mean sn mt x1 x2 = some (r, mt') ∧ mX8_mean zn zq x1 x2 = some (r, zq') ∧ Inv nr wd sg lw hg fr to sn pl kd tg sa sb bn mt' pa ro tk ov sh tu rk cb rl rg tf kn tl th zn zm zw zs zfr zto zk zt za zb zq' := by
  have h0 := h
  obtain ⟨N, d0, d1, rfl, rfl, hN, hI, hS, hM, hP, hT, hR, hU⟩ := h
  have hN24 := hS.1
  unfold mX7_mean mX8_mean
  rcases isStep_rel hN24 x1 with ⟨e1, e2⟩ | ⟨s, hs, rfl, e1, e2⟩
  · rw [e1, e2, Option.bind_some, Option.bind_some, if_pos rfl, if_pos rfl]
    exact ⟨_, _, _, rfl, rfl, h0⟩
  · have g := gd_nI (show s < 24 by omega) (show 24 < 2147483648 by decide)
    rw [e1, e2, Option.bind_some, Option.bind_some, if_neg (show ¬ (1 : Int32) = 0 by decide), if_neg (show ¬ (1 : Int32) = 0 by decide), if_neg g, if_neg g, tn_nI (by omega), (hM.1 s hs).1, nar_b h2]
    by_cases q : zq s = x2
    · rw [if_pos q, if_pos q]
      exact ⟨_, _, _, rfl, rfl, h0⟩
    · rw [if_neg q, if_neg q]
      refine ⟨_, _, _, rfl, rfl, N, d0, d1, rfl, rfl, hN, hI, hS, ⟨fun j hj => ?_, fun j h1 h3 => ?_⟩, hP, hT, hR, hU⟩
      · unfold upd
        by_cases z : j = s
        · rw [if_pos z, if_pos z]; exact ⟨rfl, h2⟩
        · rw [if_neg z, if_neg z]; exact hM.1 j hj
      · unfold upd
        rw [if_neg (by omega)]; exact hM.2 j h1 h3
