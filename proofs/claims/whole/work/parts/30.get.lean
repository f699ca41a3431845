/-! ===== the calls that tell ===== -/
theorem l_tally {nr : Int32} {wd sg : Nat → Int32} {lw hg : Nat → Int64} {zm : Int32} {zw zs : Nat → Int32} (hN : NmR nr wd sg lw hg zm zw zs) {kd tg sa sb bn zk zt za zb pa : Nat → Int32} {N : Nat} {pl : Int32} (hN24 : N ≤ 24) (hP : PathI N pl pa kd tg sa sb bn zk zt za zb) {d0 d1 : Nat} {fr to zfr zto : Nat → Int32} (hI : InR d0 d1 fr to zfr zto) {ro tk : Int32} {ov sh tu : Nat → Int32} (hT : tk = 0 ∨ (tk = 1 ∧ TaOK N ((d0 + 1) * (d1 + 1)) ro ov sh tu zm zw zs zfr zto zk zt za zb)) (ob tb fo : Int32) (rv : Nat → Int64) :
    ∃ (ob' tb' fo' : Int32) (rv' : Nat → Int64) (ro' : Int32) (ov' sh' tu' : Nat → Int32), mX5_learn nr wd sg lw hg fr to pl kd tg sa sb bn pa ob tb fo rv ro tk ov sh tu = some (ob', tb', fo', rv', ro', 1, ov', sh', tu') ∧ TaOK N ((d0 + 1) * (d1 + 1)) ro' ov' sh' tu' zm zw zs zfr zto zk zt za zb := by
  rcases hT with rfl | ⟨rfl, h⟩
  · exact tally_new hN hN24 hP hI ob tb fo rv ro ov sh tu
  · refine ⟨ob, tb, fo, rv, ro, ov, sh, tu, ?_, h⟩
    unfold mX5_learn
    rw [if_neg (show ¬ (1 : Int32) = 0 by decide)]
theorem l_reach {nr : Int32} {wd sg : Nat → Int32} {lw hg : Nat → Int64} {zm : Int32} {zw zs : Nat → Int32} (hN : NmR nr wd sg lw hg zm zw zs) {kd tg sa sb bn zk zt za zb pa : Nat → Int32} {N : Nat} {pl : Int32} (hN24 : N ≤ 24) (hP : PathI N pl pa kd tg sa sb bn zk zt za zb) {d0 d1 : Nat} {fr to zfr zto : Nat → Int32} (hI : InR d0 d1 fr to zfr zto) {rk cb : Int32} {rl rg : Nat → Int64} (hR : rk = 0 ∨ (rk = 1 ∧ RcOK N cb rl rg zm zw zs zfr zto zk zt za zb)) (rlo rhi : Int64) :
    ∃ (cb' : Int32) (rlo' rhi' : Int64) (rl' rg' : Nat → Int64), mX2_learn nr sg lw hg fr to pl kd tg sa sb bn pa rk cb rlo rhi rl rg = some (1, cb', rlo', rhi', rl', rg') ∧ RcOK N cb' rl' rg' zm zw zs zfr zto zk zt za zb := by
  rcases hR with rfl | ⟨rfl, h⟩
  · exact reach_new hN hN24 hP hI cb rlo rhi rl rg
  · refine ⟨cb, rlo, rhi, rl, rg, ?_, h⟩
    unfold mX2_learn
    rw [if_neg (show ¬ (1 : Int32) = 0 by decide)]
/-- is it a RUN? both sides -/
theorem hold_rel {d0 d1 : Nat} {fr to zfr zto : Nat → Int32} (hI : InR d0 d1 fr to zfr zto) (x y : Int32) : (mX0_hold fr to x y = some 0 ∧ mX8_isRun zfr zto x y = some 0) ∨ (mX0_hold fr to x y = some 1 ∧ mX8_isRun zfr zto x y = some 1) := by
  obtain ⟨-, -, f0, f1, t0, t1, -, -⟩ := hI
  unfold mX0_hold mX8_isRun
  rw [tn0, tn1, f0, f1, t0, t1, lt64x, lt64x, Option.bind_some, Option.bind_some, Kit.i64_of_i32, Kit.i64_of_i32, Kit.i64_of_i32, Kit.i64_of_i32]
  by_cases h1 : x.toInt < (zfr 0).toInt ∨ (zto 0).toInt < x.toInt
  · rw [if_pos h1, if_pos (show (0 : Int32) = 0 from rfl)]
    refine Or.inl ⟨?_, rfl⟩
    by_cases q : x < zfr 0
    · rw [if_pos q]
    · rw [if_neg q, if_pos (show zto 0 < x by rw [Int32.lt_iff_toInt_lt]; rw [Int32.lt_iff_toInt_lt] at q; omega)]
  · rw [if_neg h1, if_neg (show ¬ (1 : Int32) = 0 by decide), if_neg (show ¬ x < zfr 0 by rw [Int32.lt_iff_toInt_lt]; omega), if_neg (show ¬ zto 0 < x by rw [Int32.lt_iff_toInt_lt]; omega)]
    by_cases h2 : y.toInt < (zfr 1).toInt ∨ (zto 1).toInt < y.toInt
    · rw [if_pos h2, if_pos (show (0 : Int32) = 0 from rfl)]
      refine Or.inl ⟨?_, rfl⟩
      by_cases q : y < zfr 1
      · rw [if_pos q]
      · rw [if_neg q, if_pos (show zto 1 < y by rw [Int32.lt_iff_toInt_lt]; rw [Int32.lt_iff_toInt_lt] at q; omega)]
    · rw [if_neg h2, if_neg (show ¬ (1 : Int32) = 0 by decide), if_neg (show ¬ y < zfr 1 by rw [Int32.lt_iff_toInt_lt]; omega), if_neg (show ¬ zto 1 < y by rw [Int32.lt_iff_toInt_lt]; omega)]
      exact Or.inr ⟨rfl, rfl⟩
theorem p_run {nr : Int32} {wd : Nat → Int32} {sg : Nat → Int32} {lw : Nat → Int64} {hg : Nat → Int64} {fr : Nat → Int32} {to : Nat → Int32} {sn : Int32} {pl : Int32} {kd : Nat → Int32} {tg : Nat → Int32} {sa : Nat → Int32} {sb : Nat → Int32} {bn : Nat → Int32} {mt : Nat → Int32} {pa : Nat → Int32} {ro : Int32} {tk : Int32} {ov : Nat → Int32} {sh : Nat → Int32} {tu : Nat → Int32} {rk : Int32} {cb : Int32} {rl : Nat → Int64} {rg : Nat → Int64} {tf : Int32} {kn : Int32} {tl : Nat → Int64} {th : Nat → Int64} {zn : Int32} {zm : Int32} {zw : Nat → Int32} {zs : Nat → Int32} {zfr : Nat → Int32} {zto : Nat → Int32} {zk : Nat → Int32} {zt : Nat → Int32} {za : Nat → Int32} {zb : Nat → Int32} {zq : Nat → Int32} (h : Inv nr wd sg lw hg fr to sn pl kd tg sa sb bn mt pa ro tk ov sh tu rk cb rl rg tf kn tl th zn zm zw zs zfr zto zk zt za zb zq) (ob : Int32) (tb : Int32) (fo : Int32) (rv : Nat → Int64) (zj : Int32) (zf : Int32) (zl : Nat → Int32) (zv : Nat → Int64) (zo : Nat → Int32) (zu : Nat → Int32) (x1 : Int32) (x2 : Int32) (x3 : Int32) : ∃ (r : Int32) (ob' : Int32) (tb' : Int32) (fo' : Int32) (rv' : Nat → Int64) (zj' : Int32) (zf' : Int32) (zl' : Nat → Int32) (zv' : Nat → Int64) (zo' : Nat → Int32) (zu' : Nat → Int32), mX7_run nr wd sg lw hg fr to pl kd tg sa sb bn pa ob tb fo rv x1 x2 x3 = some (r, ob', tb', fo', rv') ∧ mX8_run zn zm zj zf zw zs zfr zto zk zt za zb zl zv zo zu x1 x2 x3 = some (r, zj', zf', zl', zv', zo', zu') ∧ Inv nr wd sg lw hg fr to sn pl kd tg sa sb bn mt pa ro tk ov sh tu rk cb rl rg tf kn tl th zn zm zw zs zfr zto zk zt za zb zq := by
  have h0 := h
  obtain ⟨N, d0, d1, rfl, rfl, hN, hI, hS, hM, hP, hT, hR, hU⟩ := h
  have hN24 := hS.1
  unfold mX7_run mX8_run
  rcases hold_rel hI x1 x2 with ⟨a1, a2⟩ | ⟨a1, a2⟩
  · rw [a1, a2, Option.bind_some, Option.bind_some, if_pos (show (0 : Int32) = 0 from rfl), if_pos (show (0 : Int32) = 0 from rfl)]
    rcases isName_rel x3 with ⟨b1, b2⟩ | ⟨k, hk, rfl, b1, b2⟩
    · rw [b1, Option.bind_some, if_pos (show (0 : Int32) = 0 from rfl)]
      exact ⟨_, _, _, _, _, _, _, _, _, _, _, rfl, rfl, h0⟩
    · rw [b1, Option.bind_some, if_neg (show ¬ (1 : Int32) = 0 by decide)]
      exact ⟨_, _, _, _, _, _, _, _, _, _, _, rfl, rfl, h0⟩
  · rcases isName_rel x3 with ⟨b1, b2⟩ | ⟨k, hk, rfl, b1, b2⟩
    · rw [a1, a2, b1, b2, Option.bind_some, Option.bind_some, Option.bind_some, Option.bind_some, if_pos (show (0 : Int32) = 0 from rfl), if_neg (show ¬ (1 : Int32) = 0 by decide), if_pos (show (0 : Int32) = 0 from rfl)]
      exact ⟨_, _, _, _, _, _, _, _, _, _, _, rfl, rfl, h0⟩
    · obtain ⟨zj1, zl1, len, e1, hP1⟩ := hP zj zl
      obtain ⟨ob', tb', fo', rv', zf', zv', zo', zu', r1, r2, r3⟩ := run_rel hN hP1 ob tb fo rv zf zv zo zu x1 x2
      have gk := gd_nI hk (show 6 < 2147483648 by decide)
      rw [b1, b2, a1, a2, Option.bind_some, Option.bind_some, Option.bind_some, Option.bind_some, if_neg (show ¬ (1 : Int32) = 0 by decide), if_neg (show ¬ (1 : Int32) = 0 by decide), if_neg (show ¬ (1 : Int32) = 0 by decide), if_neg (show ¬ (1 : Int32) = 0 by decide), r1, e1, Option.bind_some, Option.bind_some, r2, Option.bind_some, if_neg gk, if_neg gk, tn_nI (by omega)]
      refine ⟨(zv' k).toInt32, ob', tb', fo', rv', zj1, zf', zl1, zv', zo', zu', ?_, rfl, N, d0, d1, rfl, rfl, hN, hI, hS, hM, hP, hT, hR, hU⟩
      show some ((rv' k).toInt32, ob', tb', fo', rv') = _
      rw [r3.2.2.1 k hk]
theorem p_first {nr : Int32} {wd : Nat → Int32} {sg : Nat → Int32} {lw : Nat → Int64} {hg : Nat → Int64} {fr : Nat → Int32} {to : Nat → Int32} {sn : Int32} {pl : Int32} {kd : Nat → Int32} {tg : Nat → Int32} {sa : Nat → Int32} {sb : Nat → Int32} {bn : Nat → Int32} {mt : Nat → Int32} {pa : Nat → Int32} {ro : Int32} {tk : Int32} {ov : Nat → Int32} {sh : Nat → Int32} {tu : Nat → Int32} {rk : Int32} {cb : Int32} {rl : Nat → Int64} {rg : Nat → Int64} {tf : Int32} {kn : Int32} {tl : Nat → Int64} {th : Nat → Int64} {zn : Int32} {zm : Int32} {zw : Nat → Int32} {zs : Nat → Int32} {zfr : Nat → Int32} {zto : Nat → Int32} {zk : Nat → Int32} {zt : Nat → Int32} {za : Nat → Int32} {zb : Nat → Int32} {zq : Nat → Int32} (h : Inv nr wd sg lw hg fr to sn pl kd tg sa sb bn mt pa ro tk ov sh tu rk cb rl rg tf kn tl th zn zm zw zs zfr zto zk zt za zb zq) (ob : Int32) (tb : Int32) (fo : Int32) (rv : Nat → Int64) (zj : Int32) (zf : Int32) (zl : Nat → Int32) (zv : Nat → Int64) (zo : Nat → Int32) (zu : Nat → Int32) (x1 : Int32) (x2 : Int32) : ∃ (r : Int32) (ob' : Int32) (tb' : Int32) (fo' : Int32) (rv' : Nat → Int64) (zj' : Int32) (zf' : Int32) (zl' : Nat → Int32) (zv' : Nat → Int64) (zo' : Nat → Int32) (zu' : Nat → Int32), mX7_first nr wd sg lw hg fr to pl kd tg sa sb bn pa ob tb fo rv x1 x2 = some (r, ob', tb', fo', rv') ∧ mX8_first zn zm zj zf zw zs zfr zto zk zt za zb zl zv zo zu x1 x2 = some (r, zj', zf', zl', zv', zo', zu') ∧ Inv nr wd sg lw hg fr to sn pl kd tg sa sb bn mt pa ro tk ov sh tu rk cb rl rg tf kn tl th zn zm zw zs zfr zto zk zt za zb zq := by
  have h0 := h
  obtain ⟨N, d0, d1, rfl, rfl, hN, hI, hS, hM, hP, hT, hR, hU⟩ := h
  have hN24 := hS.1
  unfold mX7_first mX8_first
  rcases hold_rel hI x1 x2 with ⟨a1, a2⟩ | ⟨a1, a2⟩
  · rw [a1, a2, Option.bind_some, Option.bind_some, if_pos (show (0 : Int32) = 0 from rfl), if_pos (show (0 : Int32) = 0 from rfl)]
    exact ⟨_, _, _, _, _, _, _, _, _, _, _, rfl, rfl, h0⟩
  · obtain ⟨zj1, zl1, len, e1, hP1⟩ := hP zj zl
    obtain ⟨ob', tb', fo', rv', zf', zv', zo', zu', r1, r2, r3⟩ := run_rel hN hP1 ob tb fo rv zf zv zo zu x1 x2
    rw [a1, a2, Option.bind_some, Option.bind_some, if_neg (show ¬ (1 : Int32) = 0 by decide), if_neg (show ¬ (1 : Int32) = 0 by decide), r1, e1, Option.bind_some, Option.bind_some, r2, Option.bind_some]
    refine ⟨zf', ob', tb', fo', rv', zj1, zf', zl1, zv', zo', zu', ?_, rfl, N, d0, d1, rfl, rfl, hN, hI, hS, hM, hP, hT, hR, hU⟩
    show some (fo', ob', tb', fo', rv') = _
    rw [r3.1]
theorem p_over {nr : Int32} {wd : Nat → Int32} {sg : Nat → Int32} {lw : Nat → Int64} {hg : Nat → Int64} {fr : Nat → Int32} {to : Nat → Int32} {sn : Int32} {pl : Int32} {kd : Nat → Int32} {tg : Nat → Int32} {sa : Nat → Int32} {sb : Nat → Int32} {bn : Nat → Int32} {mt : Nat → Int32} {pa : Nat → Int32} {ro : Int32} {tk : Int32} {ov : Nat → Int32} {sh : Nat → Int32} {tu : Nat → Int32} {rk : Int32} {cb : Int32} {rl : Nat → Int64} {rg : Nat → Int64} {tf : Int32} {kn : Int32} {tl : Nat → Int64} {th : Nat → Int64} {zn : Int32} {zm : Int32} {zw : Nat → Int32} {zs : Nat → Int32} {zfr : Nat → Int32} {zto : Nat → Int32} {zk : Nat → Int32} {zt : Nat → Int32} {za : Nat → Int32} {zb : Nat → Int32} {zq : Nat → Int32} (h : Inv nr wd sg lw hg fr to sn pl kd tg sa sb bn mt pa ro tk ov sh tu rk cb rl rg tf kn tl th zn zm zw zs zfr zto zk zt za zb zq) (ob : Int32) (tb : Int32) (fo : Int32) (rv : Nat → Int64) (zj : Int32) (zf : Int32) (zr : Int32) (zl : Nat → Int32) (zv : Nat → Int64) (zo : Nat → Int32) (zu : Nat → Int32) (zov : Nat → Int32) (ztu : Nat → Int32) (zsh : Nat → Int32) (x1 : Int32) : ∃ (r : Int32) (ob' : Int32) (tb' : Int32) (fo' : Int32) (rv' : Nat → Int64) (ro' : Int32) (tk' : Int32) (ov' : Nat → Int32) (sh' : Nat → Int32) (tu' : Nat → Int32) (zj' : Int32) (zf' : Int32) (zr' : Int32) (zl' : Nat → Int32) (zv' : Nat → Int64) (zo' : Nat → Int32) (zu' : Nat → Int32) (zov' : Nat → Int32) (ztu' : Nat → Int32) (zsh' : Nat → Int32), mX7_over nr wd sg lw hg fr to sn pl kd tg sa sb bn pa ob tb fo rv ro tk ov sh tu x1 = some (r, ob', tb', fo', rv', ro', tk', ov', sh', tu') ∧ mX8_over zn zm zj zf zr zw zs zfr zto zk zt za zb zl zv zo zu zov ztu zsh x1 = some (r, zj', zf', zr', zl', zv', zo', zu', zov', ztu', zsh') ∧ Inv nr wd sg lw hg fr to sn pl kd tg sa sb bn mt pa ro' tk' ov' sh' tu' rk cb rl rg tf kn tl th zn zm zw zs zfr zto zk zt za zb zq := by
  have h0 := h
  obtain ⟨N, d0, d1, rfl, rfl, hN, hI, hS, hM, hP, hT, hR, hU⟩ := h
  have hN24 := hS.1
  unfold mX7_over mX8_over
  rcases isStep_rel hN24 x1 with ⟨a1, a2⟩ | ⟨s, hs, rfl, a1, a2⟩
  · rw [a1, a2, Option.bind_some, Option.bind_some, if_pos (show (0 : Int32) = 0 from rfl), if_pos (show (0 : Int32) = 0 from rfl)]
    exact ⟨_, _, _, _, _, _, _, _, _, _, _, _, _, _, _, _, _, _, _, _, rfl, rfl, h0⟩
  · obtain ⟨ob', tb', fo', rv', ro', ov', sh', tu', e1, hOK⟩ := l_tally hN hN24 hP hI hT ob tb fo rv
    obtain ⟨zj', zf', zr', zl', zv', zo', zu', zov', ztu', zsh', e2, hTy⟩ := hOK zj zf zr zl zv zo zu zov ztu zsh
    have g := gd_nI (show s < 24 by omega) (show 24 < 2147483648 by decide)
    rw [a1, a2, Option.bind_some, Option.bind_some, if_neg (show ¬ (1 : Int32) = 0 by decide), if_neg (show ¬ (1 : Int32) = 0 by decide), e1, e2, Option.bind_some, Option.bind_some, if_neg g, if_neg g, tn_nI (by omega)]
    refine ⟨zov' s, ob', tb', fo', rv', ro', 1, ov', sh', tu', zj', zf', zr', zl', zv', zo', zu', zov', ztu', zsh', ?_, rfl, N, d0, d1, rfl, rfl, hN, hI, hS, hM, hP, Or.inr ⟨rfl, hOK⟩, hR, hU⟩
    show some (ov' s, ob', tb', fo', rv', ro', 1, ov', sh', tu') = _
    rw [(hTy.2 s hs).1]
theorem p_shown {nr : Int32} {wd : Nat → Int32} {sg : Nat → Int32} {lw : Nat → Int64} {hg : Nat → Int64} {fr : Nat → Int32} {to : Nat → Int32} {sn : Int32} {pl : Int32} {kd : Nat → Int32} {tg : Nat → Int32} {sa : Nat → Int32} {sb : Nat → Int32} {bn : Nat → Int32} {mt : Nat → Int32} {pa : Nat → Int32} {ro : Int32} {tk : Int32} {ov : Nat → Int32} {sh : Nat → Int32} {tu : Nat → Int32} {rk : Int32} {cb : Int32} {rl : Nat → Int64} {rg : Nat → Int64} {tf : Int32} {kn : Int32} {tl : Nat → Int64} {th : Nat → Int64} {zn : Int32} {zm : Int32} {zw : Nat → Int32} {zs : Nat → Int32} {zfr : Nat → Int32} {zto : Nat → Int32} {zk : Nat → Int32} {zt : Nat → Int32} {za : Nat → Int32} {zb : Nat → Int32} {zq : Nat → Int32} (h : Inv nr wd sg lw hg fr to sn pl kd tg sa sb bn mt pa ro tk ov sh tu rk cb rl rg tf kn tl th zn zm zw zs zfr zto zk zt za zb zq) (ob : Int32) (tb : Int32) (fo : Int32) (rv : Nat → Int64) (zj : Int32) (zf : Int32) (zr : Int32) (zl : Nat → Int32) (zv : Nat → Int64) (zo : Nat → Int32) (zu : Nat → Int32) (zov : Nat → Int32) (ztu : Nat → Int32) (zsh : Nat → Int32) (x1 : Int32) : ∃ (r : Int32) (ob' : Int32) (tb' : Int32) (fo' : Int32) (rv' : Nat → Int64) (ro' : Int32) (tk' : Int32) (ov' : Nat → Int32) (sh' : Nat → Int32) (tu' : Nat → Int32) (zj' : Int32) (zf' : Int32) (zr' : Int32) (zl' : Nat → Int32) (zv' : Nat → Int64) (zo' : Nat → Int32) (zu' : Nat → Int32) (zov' : Nat → Int32) (ztu' : Nat → Int32) (zsh' : Nat → Int32), mX7_shown nr wd sg lw hg fr to sn pl kd tg sa sb bn pa ob tb fo rv ro tk ov sh tu x1 = some (r, ob', tb', fo', rv', ro', tk', ov', sh', tu') ∧ mX8_shown zn zm zj zf zr zw zs zfr zto zk zt za zb zl zv zo zu zov ztu zsh x1 = some (r, zj', zf', zr', zl', zv', zo', zu', zov', ztu', zsh') ∧ Inv nr wd sg lw hg fr to sn pl kd tg sa sb bn mt pa ro' tk' ov' sh' tu' rk cb rl rg tf kn tl th zn zm zw zs zfr zto zk zt za zb zq := by
  have h0 := h
  obtain ⟨N, d0, d1, rfl, rfl, hN, hI, hS, hM, hP, hT, hR, hU⟩ := h
  have hN24 := hS.1
  unfold mX7_shown mX8_shown
  rcases isStep_rel hN24 x1 with ⟨a1, a2⟩ | ⟨s, hs, rfl, a1, a2⟩
  · rw [a1, a2, Option.bind_some, Option.bind_some, if_pos (show (0 : Int32) = 0 from rfl), if_pos (show (0 : Int32) = 0 from rfl)]
    exact ⟨_, _, _, _, _, _, _, _, _, _, _, _, _, _, _, _, _, _, _, _, rfl, rfl, h0⟩
  · obtain ⟨ob', tb', fo', rv', ro', ov', sh', tu', e1, hOK⟩ := l_tally hN hN24 hP hI hT ob tb fo rv
    obtain ⟨zj', zf', zr', zl', zv', zo', zu', zov', ztu', zsh', e2, hTy⟩ := hOK zj zf zr zl zv zo zu zov ztu zsh
    have g := gd_nI (show s < 24 by omega) (show 24 < 2147483648 by decide)
    rw [a1, a2, Option.bind_some, Option.bind_some, if_neg (show ¬ (1 : Int32) = 0 by decide), if_neg (show ¬ (1 : Int32) = 0 by decide), e1, e2, Option.bind_some, Option.bind_some, if_neg g, if_neg g, tn_nI (by omega)]
    refine ⟨zsh' s, ob', tb', fo', rv', ro', 1, ov', sh', tu', zj', zf', zr', zl', zv', zo', zu', zov', ztu', zsh', ?_, rfl, N, d0, d1, rfl, rfl, hN, hI, hS, hM, hP, Or.inr ⟨rfl, hOK⟩, hR, hU⟩
    show some (sh' s, ob', tb', fo', rv', ro', 1, ov', sh', tu') = _
    rw [(hTy.2 s hs).2.1]
theorem p_turned {nr : Int32} {wd : Nat → Int32} {sg : Nat → Int32} {lw : Nat → Int64} {hg : Nat → Int64} {fr : Nat → Int32} {to : Nat → Int32} {sn : Int32} {pl : Int32} {kd : Nat → Int32} {tg : Nat → Int32} {sa : Nat → Int32} {sb : Nat → Int32} {bn : Nat → Int32} {mt : Nat → Int32} {pa : Nat → Int32} {ro : Int32} {tk : Int32} {ov : Nat → Int32} {sh : Nat → Int32} {tu : Nat → Int32} {rk : Int32} {cb : Int32} {rl : Nat → Int64} {rg : Nat → Int64} {tf : Int32} {kn : Int32} {tl : Nat → Int64} {th : Nat → Int64} {zn : Int32} {zm : Int32} {zw : Nat → Int32} {zs : Nat → Int32} {zfr : Nat → Int32} {zto : Nat → Int32} {zk : Nat → Int32} {zt : Nat → Int32} {za : Nat → Int32} {zb : Nat → Int32} {zq : Nat → Int32} (h : Inv nr wd sg lw hg fr to sn pl kd tg sa sb bn mt pa ro tk ov sh tu rk cb rl rg tf kn tl th zn zm zw zs zfr zto zk zt za zb zq) (ob : Int32) (tb : Int32) (fo : Int32) (rv : Nat → Int64) (zj : Int32) (zf : Int32) (zr : Int32) (zl : Nat → Int32) (zv : Nat → Int64) (zo : Nat → Int32) (zu : Nat → Int32) (zov : Nat → Int32) (ztu : Nat → Int32) (zsh : Nat → Int32) (x1 : Int32) : ∃ (r : Int32) (ob' : Int32) (tb' : Int32) (fo' : Int32) (rv' : Nat → Int64) (ro' : Int32) (tk' : Int32) (ov' : Nat → Int32) (sh' : Nat → Int32) (tu' : Nat → Int32) (zj' : Int32) (zf' : Int32) (zr' : Int32) (zl' : Nat → Int32) (zv' : Nat → Int64) (zo' : Nat → Int32) (zu' : Nat → Int32) (zov' : Nat → Int32) (ztu' : Nat → Int32) (zsh' : Nat → Int32), mX7_turned nr wd sg lw hg fr to sn pl kd tg sa sb bn pa ob tb fo rv ro tk ov sh tu x1 = some (r, ob', tb', fo', rv', ro', tk', ov', sh', tu') ∧ mX8_turned zn zm zj zf zr zw zs zfr zto zk zt za zb zl zv zo zu zov ztu zsh x1 = some (r, zj', zf', zr', zl', zv', zo', zu', zov', ztu', zsh') ∧ Inv nr wd sg lw hg fr to sn pl kd tg sa sb bn mt pa ro' tk' ov' sh' tu' rk cb rl rg tf kn tl th zn zm zw zs zfr zto zk zt za zb zq := by
  have h0 := h
  obtain ⟨N, d0, d1, rfl, rfl, hN, hI, hS, hM, hP, hT, hR, hU⟩ := h
  have hN24 := hS.1
  unfold mX7_turned mX8_turned
  rcases isStep_rel hN24 x1 with ⟨a1, a2⟩ | ⟨s, hs, rfl, a1, a2⟩
  · rw [a1, a2, Option.bind_some, Option.bind_some, if_pos (show (0 : Int32) = 0 from rfl), if_pos (show (0 : Int32) = 0 from rfl)]
    exact ⟨_, _, _, _, _, _, _, _, _, _, _, _, _, _, _, _, _, _, _, _, rfl, rfl, h0⟩
  · have g := gd_nI (show s < 24 by omega) (show 24 < 2147483648 by decide)
    rw [a1, a2, Option.bind_some, Option.bind_some, if_neg (show ¬ (1 : Int32) = 0 by decide), if_neg (show ¬ (1 : Int32) = 0 by decide), if_neg g, if_neg g, tn_nI (by omega), (hS.2.2 s hs).1]
    by_cases q : zk s = 7
    · obtain ⟨ob', tb', fo', rv', ro', ov', sh', tu', e1, hOK⟩ := l_tally hN hN24 hP hI hT ob tb fo rv
      obtain ⟨zj', zf', zr', zl', zv', zo', zu', zov', ztu', zsh', e2, hTy⟩ := hOK zj zf zr zl zv zo zu zov ztu zsh
      rw [if_pos q, if_pos q, e1, e2, Option.bind_some, Option.bind_some]
      refine ⟨ztu' s, ob', tb', fo', rv', ro', 1, ov', sh', tu', zj', zf', zr', zl', zv', zo', zu', zov', ztu', zsh', ?_, rfl, N, d0, d1, rfl, rfl, hN, hI, hS, hM, hP, Or.inr ⟨rfl, hOK⟩, hR, hU⟩
      show some (tu' s, ob', tb', fo', rv', ro', 1, ov', sh', tu') = _
      rw [(hTy.2 s hs).2.2.1]
    · rw [if_neg q, if_neg q]
      exact ⟨_, _, _, _, _, _, _, _, _, _, _, _, _, _, _, _, _, _, _, _, rfl, rfl, h0⟩
theorem p_ends {nr : Int32} {wd : Nat → Int32} {sg : Nat → Int32} {lw : Nat → Int64} {hg : Nat → Int64} {fr : Nat → Int32} {to : Nat → Int32} {sn : Int32} {pl : Int32} {kd : Nat → Int32} {tg : Nat → Int32} {sa : Nat → Int32} {sb : Nat → Int32} {bn : Nat → Int32} {mt : Nat → Int32} {pa : Nat → Int32} {ro : Int32} {tk : Int32} {ov : Nat → Int32} {sh : Nat → Int32} {tu : Nat → Int32} {rk : Int32} {cb : Int32} {rl : Nat → Int64} {rg : Nat → Int64} {tf : Int32} {kn : Int32} {tl : Nat → Int64} {th : Nat → Int64} {zn : Int32} {zm : Int32} {zw : Nat → Int32} {zs : Nat → Int32} {zfr : Nat → Int32} {zto : Nat → Int32} {zk : Nat → Int32} {zt : Nat → Int32} {za : Nat → Int32} {zb : Nat → Int32} {zq : Nat → Int32} (h : Inv nr wd sg lw hg fr to sn pl kd tg sa sb bn mt pa ro tk ov sh tu rk cb rl rg tf kn tl th zn zm zw zs zfr zto zk zt za zb zq) (rlo : Int64) (rhi : Int64) (zj : Int32) (zl : Nat → Int32) (zle : Nat → Int64) (zmo : Nat → Int64) (zc : Nat → Int32) (x1 : Int32) (x2 : Int32) : ∃ (r : Int32) (rk' : Int32) (cb' : Int32) (rlo' : Int64) (rhi' : Int64) (rl' : Nat → Int64) (rg' : Nat → Int64) (zj' : Int32) (zl' : Nat → Int32) (zle' : Nat → Int64) (zmo' : Nat → Int64) (zc' : Nat → Int32), mX7_ends nr sg lw hg fr to pl kd tg sa sb bn pa rk cb rlo rhi rl rg x1 x2 = some (r, rk', cb', rlo', rhi', rl', rg') ∧ mX8_ends_ zn zm zj zw zs zfr zto zk zt za zb zl zle zmo zc x1 x2 = some (r, zj', zl', zle', zmo', zc') ∧ Inv nr wd sg lw hg fr to sn pl kd tg sa sb bn mt pa ro tk ov sh tu rk' cb' rl' rg' tf kn tl th zn zm zw zs zfr zto zk zt za zb zq := by
  have h0 := h
  obtain ⟨N, d0, d1, rfl, rfl, hN, hI, hS, hM, hP, hT, hR, hU⟩ := h
  have hN24 := hS.1
  have k0 : (0 : Int64).toInt = 0 := by decide
  have k1 : (1 : Int64).toInt = 1 := by decide
  unfold mX7_ends mX8_ends_
  rcases isName_rel x1 with ⟨a1, a2⟩ | ⟨k, hk, rfl, a1, a2⟩
  · rw [a1, a2, Option.bind_some, Option.bind_some, if_pos (show (0 : Int32) = 0 from rfl), if_pos (show (0 : Int32) = 0 from rfl)]
    exact ⟨_, _, _, _, _, _, _, _, _, _, _, _, rfl, rfl, h0⟩
  · have g := gd_nI hk (show 6 < 2147483648 by decide)
    obtain ⟨cb', rlo', rhi', rl', rg', e1, hOK⟩ := l_reach hN hN24 hP hI hR rlo rhi
    obtain ⟨zj', zl', zle', zmo', zc', e2, hRc⟩ := hOK zj zl zle zmo zc
    rw [a1, a2, Option.bind_some, Option.bind_some, if_neg (show ¬ (1 : Int32) = 0 by decide), if_neg (show ¬ (1 : Int32) = 0 by decide), lt64x, k0, k1, Option.bind_some, e1, e2, Option.bind_some, Option.bind_some]
    by_cases q0 : x2 = 0
    · subst q0
      rw [if_pos (show (0 : Int32) = 0 from rfl), if_neg (show ¬ ((0 : Int32).toInt < 0 ∨ 1 < (0 : Int32).toInt) by decide), if_neg (show ¬ (1 : Int32) = 0 by decide), if_pos (show (0 : Int32) = 0 from rfl), if_neg g, if_neg g, tn_nI (by omega)]
      refine ⟨(zle' k).toInt32, 1, cb', rlo', rhi', rl', rg', zj', zl', zle', zmo', zc', ?_, rfl, N, d0, d1, rfl, rfl, hN, hI, hS, hM, hP, hT, Or.inr ⟨rfl, hOK⟩, hU⟩
      show some ((rl' k).toInt32, 1, cb', rlo', rhi', rl', rg') = _
      rw [(hRc.1 k hk).1]
    · rw [if_neg q0]
      by_cases q1 : x2 = 1
      · subst q1
        rw [if_pos (show (1 : Int32) = 1 from rfl), if_neg (show ¬ ((1 : Int32).toInt < 0 ∨ 1 < (1 : Int32).toInt) by decide), if_neg (show ¬ (1 : Int32) = 0 by decide), if_neg (show ¬ (1 : Int32) = 0 by decide), if_neg (show ¬ (1 : Int32) = 0 by decide), if_neg g, if_neg g, tn_nI (by omega)]
        refine ⟨(zmo' k).toInt32, 1, cb', rlo', rhi', rl', rg', zj', zl', zle', zmo', zc', ?_, rfl, N, d0, d1, rfl, rfl, hN, hI, hS, hM, hP, hT, Or.inr ⟨rfl, hOK⟩, hU⟩
        show some ((rg' k).toInt32, 1, cb', rlo', rhi', rl', rg') = _
        rw [(hRc.1 k hk).2.1]
      · have hx : x2.toInt < 0 ∨ 1 < x2.toInt := by
          have e0 : x2.toInt ≠ 0 := fun z => q0 (Int32.toInt_inj.mp (by rw [z]; decide))
          have e1 : x2.toInt ≠ 1 := fun z => q1 (Int32.toInt_inj.mp (by rw [z]; decide))
          omega
        rw [if_neg q1, if_pos hx, if_pos (show (0 : Int32) = 0 from rfl)]
        exact ⟨_, _, _, _, _, _, _, _, _, _, _, _, rfl, rfl, h0⟩
theorem many_c {d0 d1 : Nat} {fr to zfr zto : Nat → Int32} (hI : InR d0 d1 fr to zfr zto) : mX0_runs fr to = some (nI ((d0 + 1) * (d1 + 1))) ∧ mX8_many zfr zto = some (nI ((d0 + 1) * (d1 + 1))) := by
  obtain ⟨h31, h31', f0, f1, t0, t1, ⟨a0, b0, c0⟩, ⟨a1, b1, c1⟩⟩ := hI
  have e : ∀ (a b : Int32) (d : Nat), d ≤ 31 → -100000 ≤ a.toInt → b.toInt ≤ 100000 → b.toInt = a.toInt + d → b - a + 1 = nI (d + 1) := by
    intro a b d hd h1 h2 h3
    have : b - a = nI d := Int32.toInt_inj.mp (by rw [Kit.i32_sub (by omega) (by omega), nI_toInt (by omega)]; omega)
    rw [this, nI_1]
  unfold mX0_runs mX8_many
  rw [tn0, tn1, f0, f1, t0, t1, e _ _ d0 h31 a0 b0 c0, e _ _ d1 h31' a1 b1 c1, pk_mul]
  exact ⟨rfl, rfl⟩
theorem judged_rel {d0 d1 : Nat} {fr to zfr zto : Nat → Int32} (hI : InR d0 d1 fr to zfr zto) {N : Nat} (hN24 : N ≤ 24) {ro zr cb : Int32} {ov sh tu zov zsh ztu zc : Nat → Int32} (hT : TyR N ((d0 + 1) * (d1 + 1)) ro ov sh tu zr zov zsh ztu) (hc : ∀ s, s < N → zc s = if bt cb s = true then 1 else 0) {s : Nat} (hs : s < N) : ∃ j : Int32, mX7_judged fr to ov cb (nI s) = some j ∧ mX8_judged zfr zto zov zc (nI s) = some j ∧ (j = 0 ∨ j = 1 ∨ j = 2 ∨ j = 3) := by
  have g := gd_nI (show s < 24 by omega) (show 24 < 2147483648 by decide)
  obtain ⟨m1, m2⟩ := many_c hI
  obtain ⟨eo, -, -, -, c, hcT, ec⟩ := hT.2 s hs
  have hTb : (d0 + 1) * (d1 + 1) ≤ 32 * 32 := Nat.mul_le_mul (by have := hI.1; omega) (by have := hI.2.1; omega)
  have hcg : mX2_couldGoOver cb (nI s) = some (if bt cb s = true then 1 else 0) := by
    unfold mX2_couldGoOver
    rw [shb cb (show s < 32 by omega)]
    by_cases q : bt cb s = true
    · rw [if_pos q, if_pos rfl]
    · rw [if_neg q, if_neg (show ¬ (0 : Int32) = 1 by decide)]
  unfold mX7_judged mX8_judged
  rw [hcg, Option.bind_some, if_neg g, if_neg g, tn_nI (by omega), hc s hs, eo, ec, m1, m2, Option.bind_some, Option.bind_some]
  by_cases q : bt cb s = true
  · rw [if_pos q, if_neg (show ¬ (1 : Int32) = 0 by decide), if_neg (show ¬ (1 : Int32) = 0 by decide)]
    by_cases q0 : nI c = 0
    · rw [if_pos q0, if_pos q0]; exact ⟨1, rfl, rfl, by decide⟩
    · rw [if_neg q0, if_neg q0]
      by_cases qc : c = (d0 + 1) * (d1 + 1)
      · rw [if_pos (le_of (by omega) (by omega)), if_pos (by rw [qc])]; exact ⟨3, rfl, rfl, by decide⟩
      · rw [if_neg (nle_of (by omega) (by omega)), if_neg (fun z => qc ((nI_eq (by omega) (by omega)).mp z))]; exact ⟨2, rfl, rfl, by decide⟩
  · rw [if_neg q, if_pos (show (0 : Int32) = 0 from rfl), if_pos (show (0 : Int32) = 0 from rfl)]; exact ⟨0, rfl, rfl, by decide⟩
theorem p_judge {nr : Int32} {wd : Nat → Int32} {sg : Nat → Int32} {lw : Nat → Int64} {hg : Nat → Int64} {fr : Nat → Int32} {to : Nat → Int32} {sn : Int32} {pl : Int32} {kd : Nat → Int32} {tg : Nat → Int32} {sa : Nat → Int32} {sb : Nat → Int32} {bn : Nat → Int32} {mt : Nat → Int32} {pa : Nat → Int32} {ro : Int32} {tk : Int32} {ov : Nat → Int32} {sh : Nat → Int32} {tu : Nat → Int32} {rk : Int32} {cb : Int32} {rl : Nat → Int64} {rg : Nat → Int64} {tf : Int32} {kn : Int32} {tl : Nat → Int64} {th : Nat → Int64} {zn : Int32} {zm : Int32} {zw : Nat → Int32} {zs : Nat → Int32} {zfr : Nat → Int32} {zto : Nat → Int32} {zk : Nat → Int32} {zt : Nat → Int32} {za : Nat → Int32} {zb : Nat → Int32} {zq : Nat → Int32} (h : Inv nr wd sg lw hg fr to sn pl kd tg sa sb bn mt pa ro tk ov sh tu rk cb rl rg tf kn tl th zn zm zw zs zfr zto zk zt za zb zq) (ob : Int32) (tb : Int32) (fo : Int32) (rv : Nat → Int64) (rlo : Int64) (rhi : Int64) (zj : Int32) (zf : Int32) (zr : Int32) (zl : Nat → Int32) (zv : Nat → Int64) (zo : Nat → Int32) (zu : Nat → Int32) (zov : Nat → Int32) (ztu : Nat → Int32) (zsh : Nat → Int32) (zle : Nat → Int64) (zmo : Nat → Int64) (zc : Nat → Int32) (x1 : Int32) : ∃ (r : Int32) (ob' : Int32) (tb' : Int32) (fo' : Int32) (rv' : Nat → Int64) (ro' : Int32) (tk' : Int32) (ov' : Nat → Int32) (sh' : Nat → Int32) (tu' : Nat → Int32) (rk' : Int32) (cb' : Int32) (rlo' : Int64) (rhi' : Int64) (rl' : Nat → Int64) (rg' : Nat → Int64) (zj' : Int32) (zf' : Int32) (zr' : Int32) (zl' : Nat → Int32) (zv' : Nat → Int64) (zo' : Nat → Int32) (zu' : Nat → Int32) (zov' : Nat → Int32) (ztu' : Nat → Int32) (zsh' : Nat → Int32) (zle' : Nat → Int64) (zmo' : Nat → Int64) (zc' : Nat → Int32), mX7_judge nr wd sg lw hg fr to sn pl kd tg sa sb bn pa ob tb fo rv ro tk ov sh tu rk cb rlo rhi rl rg x1 = some (r, ob', tb', fo', rv', ro', tk', ov', sh', tu', rk', cb', rlo', rhi', rl', rg') ∧ mX8_judge zn zm zj zf zr zw zs zfr zto zk zt za zb zl zv zo zu zov ztu zsh zle zmo zc x1 = some (r, zj', zf', zr', zl', zv', zo', zu', zov', ztu', zsh', zle', zmo', zc') ∧ Inv nr wd sg lw hg fr to sn pl kd tg sa sb bn mt pa ro' tk' ov' sh' tu' rk' cb' rl' rg' tf kn tl th zn zm zw zs zfr zto zk zt za zb zq := by
  have h0 := h
  obtain ⟨N, d0, d1, rfl, rfl, hN, hI, hS, hM, hP, hT, hR, hU⟩ := h
  have hN24 := hS.1
  unfold mX7_judge mX8_judge
  rcases isStep_rel hN24 x1 with ⟨a1, a2⟩ | ⟨s, hs, rfl, a1, a2⟩
  · rw [a1, a2, Option.bind_some, Option.bind_some, if_pos (show (0 : Int32) = 0 from rfl), if_pos (show (0 : Int32) = 0 from rfl)]
    exact ⟨_, _, _, _, _, _, _, _, _, _, _, _, _, _, _, _, _, _, _, _, _, _, _, _, _, _, _, _, _, rfl, rfl, h0⟩
  · obtain ⟨cb', rlo', rhi', rl', rg', e1, hOK1⟩ := l_reach hN hN24 hP hI hR rlo rhi
    obtain ⟨zj1, zl1, zle', zmo', zc', e2, hRc⟩ := hOK1 zj zl zle zmo zc
    obtain ⟨ob', tb', fo', rv', ro', ov', sh', tu', e3, hOK2⟩ := l_tally hN hN24 hP hI hT ob tb fo rv
    obtain ⟨zj', zf', zr', zl', zv', zo', zu', zov', ztu', zsh', e4, hTy⟩ := hOK2 zj1 zf zr zl1 zv zo zu zov ztu zsh
    obtain ⟨j, j1, j2, -⟩ := judged_rel hI hN24 hTy hRc.2 hs
    rw [a1, a2, Option.bind_some, Option.bind_some, if_neg (show ¬ (1 : Int32) = 0 by decide), if_neg (show ¬ (1 : Int32) = 0 by decide), e1, e2, Option.bind_some, Option.bind_some, e3, e4, Option.bind_some, Option.bind_some, j1, j2, Option.bind_some, Option.bind_some]
    exact ⟨j, ob', tb', fo', rv', ro', 1, ov', sh', tu', 1, cb', rlo', rhi', rl', rg', zj', zf', zr', zl', zv', zo', zu', zov', ztu', zsh', zle', zmo', zc', rfl, rfl, N, d0, d1, rfl, rfl, hN, hI, hS, hM, hP, Or.inr ⟨rfl, hOK2⟩, Or.inr ⟨rfl, hOK1⟩, hU⟩
theorem marks_rel {N : Nat} (hN24 : N ≤ 24) {mt zq : Nat → Int32} (hM : MtR N mt zq) (zm : Int32) (zw zs zfr zto zk zt za zb : Nat → Int32) (zj zf zr : Int32) (zl : Nat → Int32) (zv : Nat → Int64) (zo zu zov ztu zsh : Nat → Int32) : ∃ r : Int32, mX4_marks (nI N) mt = some r ∧ mX8_count_L115 (nI N) zm zw zs zfr zto zk zt za zb zq FU zj zf zr zl zv zo zu zov ztu zsh 0 0 = some (r, zj, zf, zr, zl, zv, zo, zu, zov, ztu, zsh) := by
  have key : ∀ (n i : Nat) (x : Int32), i ≤ N → N - i < n → ∃ r : Int32, mX4_marks_L4 (nI N) mt n x (nI i) = some r ∧ mX8_count_L115 (nI N) zm zw zs zfr zto zk zt za zb zq n zj zf zr zl zv zo zu zov ztu zsh x (nI i) = some (r, zj, zf, zr, zl, zv, zo, zu, zov, ztu, zsh) := by
    intro n
    induction n with
    | zero => intro i x h1 h2; omega
    | succ n ih =>
      intro i x hi hn
      rw [mX4_marks_L4, mX8_count_L115]
      by_cases he : i = N
      · subst he
        rw [if_pos (le_of (Nat.le_refl _) (by omega)), if_pos (le_of (Nat.le_refl _) (by omega))]
        exact ⟨x, rfl, rfl⟩
      · have hlt : i < N := by omega
        have g := gd_nI (show i < 24 by omega) (show 24 < 2147483648 by decide)
        rw [if_neg (nle_of hlt (by omega)), if_neg (nle_of hlt (by omega)), if_neg g, if_neg g, tn_nI (by omega), nI_1, (hM.1 i hlt).1]
        by_cases q : zq i = 0
        · rw [if_pos q, if_pos q, Int32.add_zero]; exact ih (i + 1) x (by omega) (by omega)
        · rw [if_neg q, if_neg q]; exact ih (i + 1) (x + 1) (by omega) (by omega)
  exact key FU 0 0 (Nat.zero_le _) (by unfold FU; omega)
theorem sub_k {x : Int32} {k : Nat} (hk : k ≤ 100) (h1 : (k : Int) ≤ x.toInt) (h2 : x.toInt < k + 6) : ∃ n, n < 6 ∧ x - nI k = nI n := by
  have hki := nI_toInt (n := k) (by omega)
  have e : (x - nI k).toInt = x.toInt - k := by rw [Kit.i32_sub (by rw [hki]; omega) (by rw [hki]; omega), hki]
  exact of_rng (by rw [e]; omega) (by rw [e]; omega) (by decide)
theorem p_count {nr : Int32} {wd : Nat → Int32} {sg : Nat → Int32} {lw : Nat → Int64} {hg : Nat → Int64} {fr : Nat → Int32} {to : Nat → Int32} {sn : Int32} {pl : Int32} {kd : Nat → Int32} {tg : Nat → Int32} {sa : Nat → Int32} {sb : Nat → Int32} {bn : Nat → Int32} {mt : Nat → Int32} {pa : Nat → Int32} {ro : Int32} {tk : Int32} {ov : Nat → Int32} {sh : Nat → Int32} {tu : Nat → Int32} {rk : Int32} {cb : Int32} {rl : Nat → Int64} {rg : Nat → Int64} {tf : Int32} {kn : Int32} {tl : Nat → Int64} {th : Nat → Int64} {zn : Int32} {zm : Int32} {zw : Nat → Int32} {zs : Nat → Int32} {zfr : Nat → Int32} {zto : Nat → Int32} {zk : Nat → Int32} {zt : Nat → Int32} {za : Nat → Int32} {zb : Nat → Int32} {zq : Nat → Int32} (h : Inv nr wd sg lw hg fr to sn pl kd tg sa sb bn mt pa ro tk ov sh tu rk cb rl rg tf kn tl th zn zm zw zs zfr zto zk zt za zb zq) (ob : Int32) (tb : Int32) (fo : Int32) (rv : Nat → Int64) (zj : Int32) (zf : Int32) (zr : Int32) (zl : Nat → Int32) (zv : Nat → Int64) (zo : Nat → Int32) (zu : Nat → Int32) (zov : Nat → Int32) (ztu : Nat → Int32) (zsh : Nat → Int32) (x1 : Int32) : ∃ (r : Int32) (ob' : Int32) (tb' : Int32) (fo' : Int32) (rv' : Nat → Int64) (ro' : Int32) (tk' : Int32) (ov' : Nat → Int32) (sh' : Nat → Int32) (tu' : Nat → Int32) (zj' : Int32) (zf' : Int32) (zr' : Int32) (zl' : Nat → Int32) (zv' : Nat → Int64) (zo' : Nat → Int32) (zu' : Nat → Int32) (zov' : Nat → Int32) (ztu' : Nat → Int32) (zsh' : Nat → Int32), mX7_count nr wd sg lw hg fr to sn pl kd tg sa sb bn mt pa ob tb fo rv ro tk ov sh tu x1 = some (r, ob', tb', fo', rv', ro', tk', ov', sh', tu') ∧ mX8_count zn zm zj zf zr zw zs zfr zto zk zt za zb zq zl zv zo zu zov ztu zsh x1 = some (r, zj', zf', zr', zl', zv', zo', zu', zov', ztu', zsh') ∧ Inv nr wd sg lw hg fr to sn pl kd tg sa sb bn mt pa ro' tk' ov' sh' tu' rk cb rl rg tf kn tl th zn zm zw zs zfr zto zk zt za zb zq := by
  have h0 := h
  obtain ⟨N, d0, d1, rfl, rfl, hN, hI, hS, hM, hP, hT, hR, hU⟩ := h
  have hN24 := hS.1
  have k10 : (10 : Int64).toInt = 10 := by decide
  have k15 : (15 : Int64).toInt = 15 := by decide
  have k20 : (20 : Int64).toInt = 20 := by decide
  have k25 : (25 : Int64).toInt = 25 := by decide
  have j10 : (10 : Int32).toInt = 10 := by decide
  have j16 : (16 : Int32).toInt = 16 := by decide
  have j20 : (20 : Int32).toInt = 20 := by decide
  have j26 : (26 : Int32).toInt = 26 := by decide
  unfold mX8_count
  rw [lt64x, k10, k15, Option.bind_some, lt64x, k20, k25, Option.bind_some]
  by_cases a1 : x1.toInt < 10 ∨ 15 < x1.toInt
  · rw [if_pos a1, if_pos (show (0 : Int32) = 0 from rfl)]
    by_cases a2 : x1.toInt < 20 ∨ 25 < x1.toInt
    · have hc : mX7_count nr wd sg lw hg fr to (nI N) pl kd tg sa sb bn mt pa ob tb fo rv ro tk ov sh tu x1 = mX7_count_L58 nr wd sg lw hg fr to (nI N) pl kd tg sa sb bn mt pa ob tb fo rv ro tk ov sh tu x1 := by
        unfold mX7_count
        by_cases q1 : x1 < 10
        · rw [if_pos q1]
          rw [if_pos (show x1 < 20 by rw [Int32.lt_iff_toInt_lt, j20]; rw [Int32.lt_iff_toInt_lt, j10] at q1; omega)]
        · rw [if_neg q1]
          rw [Int32.lt_iff_toInt_lt, j10] at q1
          rw [if_pos (show 16 ≤ x1 by rw [Int32.le_iff_toInt_le, j16]; omega)]
          by_cases q2 : x1 < 20
          · rw [if_pos q2]
          · rw [if_neg q2]
            rw [Int32.lt_iff_toInt_lt, j20] at q2
            rw [if_pos (show 26 ≤ x1 by rw [Int32.le_iff_toInt_le, j26]; omega)]
      rw [hc, if_pos a2, if_pos (show (0 : Int32) = 0 from rfl)]
      unfold mX7_count_L58
      by_cases b0 : x1 = 0
      · rw [if_pos b0, if_pos b0]; exact ⟨_, _, _, _, _, _, _, _, _, _, _, _, _, _, _, _, _, _, _, _, rfl, rfl, h0⟩
      · rw [if_neg b0, if_neg b0]
        by_cases b1 : x1 = 1
        · obtain ⟨m1, m2⟩ := many_c hI
          rw [if_pos b1, if_pos b1, m1, m2, Option.bind_some, Option.bind_some]; exact ⟨_, _, _, _, _, _, _, _, _, _, _, _, _, _, _, _, _, _, _, _, rfl, rfl, h0⟩
        · rw [if_neg b1, if_neg b1]
          by_cases b2 : x1 = 2
          · obtain ⟨ob', tb', fo', rv', ro', ov', sh', tu', e1, hOK⟩ := l_tally hN hN24 hP hI hT ob tb fo rv
            obtain ⟨zj', zf', zr', zl', zv', zo', zu', zov', ztu', zsh', e2, hTy⟩ := hOK zj zf zr zl zv zo zu zov ztu zsh
            rw [if_pos b2, if_pos b2, e1, e2, Option.bind_some, Option.bind_some]
            refine ⟨zr', ob', tb', fo', rv', ro', 1, ov', sh', tu', zj', zf', zr', zl', zv', zo', zu', zov', ztu', zsh', ?_, rfl, N, d0, d1, rfl, rfl, hN, hI, hS, hM, hP, Or.inr ⟨rfl, hOK⟩, hR, hU⟩
            show some (ro', ob', tb', fo', rv', ro', 1, ov', sh', tu') = _
            rw [hTy.1]
          · rw [if_neg b2, if_neg b2]
            by_cases b3 : x1 = 3
            · obtain ⟨r, m1, m2⟩ := marks_rel hN24 hM zm zw zs zfr zto zk zt za zb zj zf zr zl zv zo zu zov ztu zsh
              rw [if_pos b3, if_pos b3, m1, m2, Option.bind_some]; exact ⟨_, _, _, _, _, _, _, _, _, _, _, _, _, _, _, _, _, _, _, _, rfl, rfl, h0⟩
            · rw [if_neg b3, if_neg b3]
              by_cases b4 : x1 = 4
              · rw [if_pos b4, if_pos b4]
                obtain ⟨en, hm, -⟩ := id hN
                rcases hm with q | q
                · rw [if_pos (en.trans q), q]; rw [q] at h0; exact ⟨_, _, _, _, _, _, _, _, _, _, _, _, _, _, _, _, _, _, _, _, rfl, rfl, h0⟩
                · rw [if_neg (show ¬ nr = 0 by rw [en, q]; decide), q]; rw [q] at h0; exact ⟨_, _, _, _, _, _, _, _, _, _, _, _, _, _, _, _, _, _, _, _, rfl, rfl, h0⟩
              · rw [if_neg b4, if_neg b4]; exact ⟨_, _, _, _, _, _, _, _, _, _, _, _, _, _, _, _, _, _, _, _, rfl, rfl, h0⟩
    · obtain ⟨k, hk, ek⟩ := sub_k (x := x1) (k := 20) (by decide) (by omega) (by omega)
      have ek' : x1 - 20 = nI k := ek
      have g := gd_nI hk (show 6 < 2147483648 by decide)
      have hc : mX7_count nr wd sg lw hg fr to (nI N) pl kd tg sa sb bn mt pa ob tb fo rv ro tk ov sh tu x1 = if sg k = 0 then some (0, ob, tb, fo, rv, ro, tk, ov, sh, tu) else some (1, ob, tb, fo, rv, ro, tk, ov, sh, tu) := by
        unfold mX7_count
        rw [if_neg (show ¬ x1 < 10 by rw [Int32.lt_iff_toInt_lt, j10]; omega), if_pos (show 16 ≤ x1 by rw [Int32.le_iff_toInt_le, j16]; omega), if_neg (show ¬ x1 < 20 by rw [Int32.lt_iff_toInt_lt, j20]; omega), if_neg (show ¬ 26 ≤ x1 by rw [Int32.le_iff_toInt_le, j26]; omega), ek', if_neg g, tn_nI (by omega)]
      rw [hc, if_neg a2, if_neg (show ¬ (1 : Int32) = 0 by decide), ek', if_neg g, tn_nI (by omega), (hN.2.2 k hk).2.1]
      by_cases q : zs k = 0
      · rw [if_pos q, if_pos q]; exact ⟨_, _, _, _, _, _, _, _, _, _, _, _, _, _, _, _, _, _, _, _, rfl, rfl, h0⟩
      · rw [if_neg q, if_neg q]; exact ⟨_, _, _, _, _, _, _, _, _, _, _, _, _, _, _, _, _, _, _, _, rfl, rfl, h0⟩
  · obtain ⟨k, hk, ek⟩ := sub_k (x := x1) (k := 10) (by decide) (by omega) (by omega)
    have ek' : x1 - 10 = nI k := ek
    have g := gd_nI hk (show 6 < 2147483648 by decide)
    have hc : mX7_count nr wd sg lw hg fr to (nI N) pl kd tg sa sb bn mt pa ob tb fo rv ro tk ov sh tu x1 = some (wd k, ob, tb, fo, rv, ro, tk, ov, sh, tu) := by
      unfold mX7_count
      rw [if_neg (show ¬ x1 < 10 by rw [Int32.lt_iff_toInt_lt, j10]; omega), if_neg (show ¬ 16 ≤ x1 by rw [Int32.le_iff_toInt_le, j16]; omega), ek', if_neg g, tn_nI (by omega)]
    rw [hc, if_neg a1, if_neg (show ¬ (1 : Int32) = 0 by decide), ek', if_neg g, tn_nI (by omega), (hN.2.2 k hk).1]
    exact ⟨_, _, _, _, _, _, _, _, _, _, _, _, _, _, _, _, _, _, _, _, rfl, rfl, h0⟩
