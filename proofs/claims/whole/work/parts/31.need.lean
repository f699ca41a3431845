/-! ===== need, price, mend, listed ===== -/
theorem l_trues {kd tg sa sb bn zk zt za zb pa : Nat → Int32} {N : Nat} {pl : Int32} (hP : PathI N pl pa kd tg sa sb bn zk zt za zb) (zw zs : Nat → Int32) {d0 d1 : Nat} {fr to zfr zto : Nat → Int32} (hI : InR d0 d1 fr to zfr zto) {tf kn : Int32} {tl th : Nat → Int64} (hU : kn = 0 ∨ (kn = 1 ∧ TrOK N tf tl th zw zs zfr zto zk zt za zb)) (tv : Nat → Int64) :
    ∃ (tf' : Int32) (tl' th' tv' : Nat → Int64), mX6_learn fr to pl kd tg sa sb bn pa tf kn tl th tv = some (tf', 1, tl', th', tv') ∧ TrOK N tf' tl' th' zw zs zfr zto zk zt za zb := by
  rcases hU with rfl | ⟨rfl, h⟩
  · exact trues_new hP zw zs hI tf tl th tv
  · refine ⟨tf, tl, th, tv, ?_, h⟩
    unfold mX6_learn
    rw [if_neg (show ¬ (1 : Int32) = 0 by decide)]
theorem m_L27 {t : Nat} (ht : t < 6) (zs : Nat → Int32) (zlo zhi : Nat → Int64) (kk : Int32 → Int32 → Option Int32) (x2 : Int32) : mX8_needOf_L27 zs zlo zhi kk (nI t) x2 (lowS x2 (zs t)) = if zlo t < lowS x2 (zs t) then kk (nI t) (x2 + 1) else if highS x2 (zs t) < zhi t then kk (nI t) (x2 + 1) else some x2 := by
  unfold mX8_needOf_L27 highS
  rw [if_neg (gd_nI ht (by decide)), tn_nI (by omega)]
  by_cases q : zs t = 0
  · rw [if_pos q, if_pos q]
  · rw [if_neg q, if_neg q]
theorem need_loop {t : Nat} (ht : t < 6) (sg : Nat → Int32) {zs : Nat → Int32} {tl th zlo zhi : Nat → Int64} (hT : TlR tl th zlo zhi) : ∀ (n k : Nat), 2 ≤ k → k ≤ 32 → 32 - k < n → ∃ w : Int32, mX7_needed_L24 sg 0 tl th n (nI t) (zs t) (nI k) = some w ∧ mX8_needOf_L2 zs zlo zhi n (nI t) (nI k) = some w ∧ (w = -1 ∨ ∃ j, 2 ≤ j ∧ j ≤ 31 ∧ w = nI j) := by
  have gt := gd_nI ht (show 6 < 2147483648 by decide)
  obtain ⟨e1, e2⟩ := hT t ht
  intro n
  induction n with
  | zero => intro k h1 h2 h3; omega
  | succ n ih =>
    intro k h2 h3 hn
    rw [mX7_needed_L24, mX8_needOf_L2]
    by_cases q : k = 32
    · subst q
      rw [if_pos (show (31 : Int32) < nI 32 by decide), if_pos (show (31 : Int32) < nI 32 by decide)]
      exact ⟨-1, rfl, rfl, Or.inl rfl⟩
    · have hk : ¬ (31 : Int32) < nI k := nI_nlt (a := 31) (b := k) (by omega) (by decide)
      have hm : (if zs t = 0 then mX8_needOf_L27 zs zlo zhi (mX8_needOf_L2 zs zlo zhi n) (nI t) (nI k) 0 else mX8_needOf_L27 zs zlo zhi (mX8_needOf_L2 zs zlo zhi n) (nI t) (nI k) (-((1 : Int64) <<< ((nI k - 1).toInt64 &&& 63)))) = mX8_needOf_L27 zs zlo zhi (mX8_needOf_L2 zs zlo zhi n) (nI t) (nI k) (lowS (nI k) (zs t)) := by
        unfold lowS
        by_cases z : zs t = 0
        · rw [if_pos z, if_pos z]
        · rw [if_neg z, if_neg z]
      rw [if_neg hk, if_neg hk, if_neg gt, if_neg gt, tn_nI (by omega), hm, m_L27 ht, c_least, Option.bind_some, c_great, Option.bind_some, e1, e2, nI_1]
      by_cases q1 : zlo t < lowS (nI k) (zs t)
      · rw [if_pos q1, if_pos q1]; exact ih (k + 1) (by omega) (by omega) (by omega)
      · rw [if_neg q1, if_neg q1]
        by_cases q2 : highS (nI k) (zs t) < zhi t
        · rw [if_pos q2, if_pos q2]; exact ih (k + 1) (by omega) (by omega) (by omega)
        · rw [if_neg q2, if_neg q2]; exact ⟨nI k, rfl, rfl, Or.inr ⟨k, h2, by omega, rfl⟩⟩
theorem needed_rel {t : Nat} (ht : t < 6) {sg zs : Nat → Int32} (hs : sg t = zs t) {tl th zlo zhi : Nat → Int64} (hT : TlR tl th zlo zhi) : ∃ w : Int32, mX7_needed sg 0 tl th (nI t) = some w ∧ mX8_needOf zs zlo zhi (nI t) = some w ∧ (w = -1 ∨ ∃ j, 2 ≤ j ∧ j ≤ 31 ∧ w = nI j) := by
  obtain ⟨w, h1, h2, h3⟩ := need_loop ht sg (zs := zs) hT FU 2 (by omega) (by omega) (by unfold FU; omega)
  refine ⟨w, ?_, h2, h3⟩
  unfold mX7_needed
  rw [if_pos rfl, if_neg (gd_nI ht (by decide)), tn_nI (by omega), hs]
  exact h1
theorem needed_far (sg : Nat → Int32) (tl th : Nat → Int64) (x : Int32) : mX7_needed sg 1 tl th x = some (-1) := by
  unfold mX7_needed
  rw [if_neg (show ¬ (1 : Int32) = 0 by decide)]
/-- the NEEDS of all names, as both sides find them -/
theorem needs_fun {sg zs : Nat → Int32} (hs : ∀ t, t < 6 → sg t = zs t) {tl th zlo zhi : Nat → Int64} (hT : TlR tl th zlo zhi) : ∃ W : Nat → Int32, ∀ t, t < 6 → mX7_needed sg 0 tl th (nI t) = some (W t) ∧ mX8_needOf zs zlo zhi (nI t) = some (W t) ∧ (W t = -1 ∨ ∃ j, 2 ≤ j ∧ j ≤ 31 ∧ W t = nI j) := by
  refine ⟨fun t => if h : t < 6 then Classical.choose (needed_rel h (hs t h) hT) else 0, fun t ht => ?_⟩
  have := Classical.choose_spec (needed_rel ht (hs t ht) hT)
  simp only [dif_pos ht]
  exact this
theorem can_loop {sg : Nat → Int32} {tf : Int32} {tl th : Nat → Int64} {W : Nat → Int32} (hW : ∀ t, t < 6 → mX7_needed sg tf tl th (nI t) = some (W t)) : ((∃ t, t < 6 ∧ W t = -1) ∧ mX7_canMend sg tf tl th = some 0) ∨ ((∀ t, t < 6 → ¬ W t = -1) ∧ mX7_canMend sg tf tl th = some 1) := by
  have key : ∀ (n i : Nat), i ≤ 6 → 6 - i < n → (∀ t, t < i → ¬ W t = -1) → ((∃ t, t < 6 ∧ W t = -1) ∧ mX7_canMend_L2 sg tf tl th n (nI i) = some 0) ∨ ((∀ t, t < 6 → ¬ W t = -1) ∧ mX7_canMend_L2 sg tf tl th n (nI i) = some 1) := by
    intro n
    induction n with
    | zero => intro i h1 h2; omega
    | succ n ih =>
      intro i hi hn hb
      rw [mX7_canMend_L2]
      by_cases he : i = 6
      · subst he
        rw [if_pos (show (6 : Int32) ≤ nI 6 by decide)]
        exact Or.inr ⟨hb, rfl⟩
      · have hlt : i < 6 := by omega
        rw [if_neg (show ¬ (6 : Int32) ≤ nI i from nle_of (n := 6) hlt (by decide)), hW i hlt, Option.bind_some, nI_1]
        by_cases q : W i = -1
        · rw [if_pos q]; exact Or.inl ⟨⟨i, hlt, q⟩, rfl⟩
        · rw [if_neg q]
          exact ih (i + 1) (by omega) (by omega) (fun t ht => by
            by_cases z : t = i
            · rw [z]; exact q
            · exact hb t (by omega))
  exact key FU 0 (by omega) (by unfold FU; omega) (fun t ht => by omega)
/-- the model's price where a NEED is NONE -/
theorem price_none (zn : Int32) (zw : Nat → Int32) {zs : Nat → Int32} {zfr zto zk zt za zb : Nat → Int32} {zlo zhi : Nat → Int64} {W : Nat → Int32} (hW : ∀ t, t < 6 → mX8_needOf zs zlo zhi (nI t) = some (W t)) (zj : Int32) (zl : Nat → Int32) (zv : Nat → Int64) : ∀ (n i : Nat) (x : Int32), i ≤ 6 → 6 - i < n → (∃ t, i ≤ t ∧ t < 6 ∧ W t = -1) → mX8_price_L13 zn zw zs zfr zto zk zt za zb n zj zl zv zlo zhi x (nI i) = some (-1, zj, zl, zv, zlo, zhi) := by
  intro n
  induction n with
  | zero => intro i x h1 h2; omega
  | succ n ih =>
    intro i x hi hn ⟨t, t1, t2, t3⟩
    have hlt : i < 6 := by omega
    rw [mX8_price_L13, if_neg (show ¬ (6 : Int32) ≤ nI i from nle_of (n := 6) hlt (by decide)), hW i hlt, Option.bind_some, nI_1]
    by_cases q : W i = -1
    · rw [if_pos q]
    · rw [if_neg q, if_neg (gd_nI hlt (by decide))]
      refine ih (i + 1) _ (by omega) (by omega) ⟨t, ?_, t2, t3⟩
      by_cases z : t = i
      · rw [z] at t3; exact absurd t3 q
      · omega
theorem more_bits {j k : Nat} (hj : j ≤ 31) (hk : k ≤ 31) : ∃ m, m ≤ 31 ∧ (if (0 : Int32) < nI j - nI k then nI j - nI k else 0) = nI m := by
  have e : (nI j - nI k).toInt = (j : Int) - k := pk_sub_toInt (by omega) (by omega)
  by_cases q : (0 : Int32) < nI j - nI k
  · rw [if_pos q]
    rw [Int32.lt_iff_toInt_lt, e] at q
    have q' : (0 : Int) < (j : Int) - k := q
    exact ⟨j - k, by omega, pk_sub (by omega)⟩
  · rw [if_neg q]; exact ⟨0, by omega, rfl⟩
theorem price_loop (zn : Int32) {wd zw sg zs : Nat → Int32} {fr to kd tg sa sb bn pa zfr zto zk zt za zb : Nat → Int32} {pl tf kn : Int32} {tl th tv zlo zhi : Nat → Int64} {W : Nat → Int32} (hWc : ∀ t, t < 6 → mX7_needed sg tf tl th (nI t) = some (W t)) (hWm : ∀ t, t < 6 → mX8_needOf zs zlo zhi (nI t) = some (W t)) (hJ : ∀ t, t < 6 → ∃ j, j ≤ 31 ∧ W t = nI j) (hw : ∀ t, t < 6 → wd t = zw t ∧ ∃ k, k ≤ 31 ∧ zw t = nI k) (zj : Int32) (zl : Nat → Int32) (zv : Nat → Int64) :
    ∀ (n i a : Nat), i ≤ 6 → 6 - i < n → a ≤ 31 * i → ∃ m, m ≤ 200 ∧ mX7_price_L20 wd sg fr to pl kd tg sa sb bn pa n tf kn tl th tv (nI a) (nI i) = some (nI m, tf, kn, tl, th, tv) ∧ mX8_price_L13 zn zw zs zfr zto zk zt za zb n zj zl zv zlo zhi (nI a) (nI i) = some (nI m, zj, zl, zv, zlo, zhi) := by
  intro n
  induction n with
  | zero => intro i a h1 h2; omega
  | succ n ih =>
    intro i a hi hn ha
    rw [mX7_price_L20, mX8_price_L13]
    by_cases he : i = 6
    · subst he
      rw [if_pos (show (6 : Int32) ≤ nI 6 by decide), if_pos (show (6 : Int32) ≤ nI 6 by decide)]
      exact ⟨a, by omega, rfl, rfl⟩
    · have hlt : i < 6 := by omega
      have g := gd_nI hlt (show 6 < 2147483648 by decide)
      obtain ⟨j, hj, ej⟩ := hJ i hlt
      obtain ⟨ew, k, hk, ek⟩ := hw i hlt
      obtain ⟨m, hm, em⟩ := more_bits hj hk
      rw [if_neg (show ¬ (6 : Int32) ≤ nI i from nle_of (n := 6) hlt (by decide)), if_neg (show ¬ (6 : Int32) ≤ nI i from nle_of (n := 6) hlt (by decide)), hWc i hlt, hWm i hlt, Option.bind_some, Option.bind_some, if_neg g, if_neg g, tn_nI (by omega), ew, ek, ej, em, nI_add, nI_1, if_neg (nI_ne_m1 (by omega))]
      exact ih (i + 1) (a + m) (by omega) (by omega) (by omega)
theorem p_need {nr : Int32} {wd : Nat → Int32} {sg : Nat → Int32} {lw : Nat → Int64} {hg : Nat → Int64} {fr : Nat → Int32} {to : Nat → Int32} {sn : Int32} {pl : Int32} {kd : Nat → Int32} {tg : Nat → Int32} {sa : Nat → Int32} {sb : Nat → Int32} {bn : Nat → Int32} {mt : Nat → Int32} {pa : Nat → Int32} {ro : Int32} {tk : Int32} {ov : Nat → Int32} {sh : Nat → Int32} {tu : Nat → Int32} {rk : Int32} {cb : Int32} {rl : Nat → Int64} {rg : Nat → Int64} {tf : Int32} {kn : Int32} {tl : Nat → Int64} {th : Nat → Int64} {zn : Int32} {zm : Int32} {zw : Nat → Int32} {zs : Nat → Int32} {zfr : Nat → Int32} {zto : Nat → Int32} {zk : Nat → Int32} {zt : Nat → Int32} {za : Nat → Int32} {zb : Nat → Int32} {zq : Nat → Int32} (h : Inv nr wd sg lw hg fr to sn pl kd tg sa sb bn mt pa ro tk ov sh tu rk cb rl rg tf kn tl th zn zm zw zs zfr zto zk zt za zb zq) (tv : Nat → Int64) (zj : Int32) (zl : Nat → Int32) (zv : Nat → Int64) (zlo : Nat → Int64) (zhi : Nat → Int64) (x1 : Int32) : ∃ (r : Int32) (tf' : Int32) (kn' : Int32) (tl' : Nat → Int64) (th' : Nat → Int64) (tv' : Nat → Int64) (zj' : Int32) (zl' : Nat → Int32) (zv' : Nat → Int64) (zlo' : Nat → Int64) (zhi' : Nat → Int64), mX7_need sg fr to pl kd tg sa sb bn pa tf kn tl th tv x1 = some (r, tf', kn', tl', th', tv') ∧ mX8_need zn zj zw zs zfr zto zk zt za zb zl zv zlo zhi x1 = some (r, zj', zl', zv', zlo', zhi') ∧ Inv nr wd sg lw hg fr to sn pl kd tg sa sb bn mt pa ro tk ov sh tu rk cb rl rg tf' kn' tl' th' zn zm zw zs zfr zto zk zt za zb zq := by
  have h0 := h
  obtain ⟨N, d0, d1, rfl, rfl, hN, hI, hS, hM, hP, hT, hR, hU⟩ := h
  have hN24 := hS.1
  have hsg : ∀ t, t < 6 → sg t = zs t := fun t ht => (hN.2.2 t ht).2.1
  unfold mX7_need mX8_need
  rcases isName_rel x1 with ⟨a1, a2⟩ | ⟨k, hk, rfl, a1, a2⟩
  · rw [a1, a2, Option.bind_some, Option.bind_some, if_pos (show (0 : Int32) = 0 from rfl), if_pos (show (0 : Int32) = 0 from rfl)]
    exact ⟨_, _, _, _, _, _, _, _, _, _, _, rfl, rfl, h0⟩
  · obtain ⟨tf', tl', th', tv', e1, hOK⟩ := l_trues hP zw zs hI hU tv
    obtain ⟨fl, zj', zl', zv', zlo', zhi', e2, hTu⟩ := hOK zj zl zv zlo zhi
    rw [a1, a2, Option.bind_some, Option.bind_some, if_neg (show ¬ (1 : Int32) = 0 by decide), if_neg (show ¬ (1 : Int32) = 0 by decide), e1, e2, Option.bind_some, Option.bind_some]
    rcases hTu with ⟨rfl, rfl, hT'⟩ | ⟨rfl, rfl⟩
    · obtain ⟨w, w1, w2, -⟩ := needed_rel hk (hsg k hk) hT'
      rw [if_neg (show ¬ (1 : Int32) = 0 by decide), w1, w2, Option.bind_some, Option.bind_some]
      exact ⟨w, 0, 1, tl', th', tv', zj', zl', zv', zlo', zhi', rfl, rfl, N, d0, d1, rfl, rfl, hN, hI, hS, hM, hP, hT, hR, Or.inr ⟨rfl, hOK⟩⟩
    · rw [if_pos (show (0 : Int32) = 0 from rfl), needed_far, Option.bind_some]
      exact ⟨-1, 1, 1, tl', th', tv', zj', zl', zv', zlo', zhi', rfl, rfl, N, d0, d1, rfl, rfl, hN, hI, hS, hM, hP, hT, hR, Or.inr ⟨rfl, hOK⟩⟩
/-- price, on both sides; the lists that it leaves -/
theorem price_rel {nr : Int32} {wd sg : Nat → Int32} {lw hg : Nat → Int64} {zm : Int32} {zw zs : Nat → Int32} (hN : NmR nr wd sg lw hg zm zw zs) {kd tg sa sb bn zk zt za zb pa : Nat → Int32} {N : Nat} {pl : Int32} (hP : PathI N pl pa kd tg sa sb bn zk zt za zb) {d0 d1 : Nat} {fr to zfr zto : Nat → Int32} (hI : InR d0 d1 fr to zfr zto) {tf kn : Int32} {tl th : Nat → Int64} (hU : kn = 0 ∨ (kn = 1 ∧ TrOK N tf tl th zw zs zfr zto zk zt za zb)) (tv : Nat → Int64) (zj : Int32) (zl : Nat → Int32) (zv zlo zhi : Nat → Int64) :
    ∃ (tf' : Int32) (tl' th' tv' : Nat → Int64) (zj' : Int32) (zl' : Nat → Int32) (zv' zlo' zhi' : Nat → Int64), mX6_learn fr to pl kd tg sa sb bn pa tf kn tl th tv = some (tf', 1, tl', th', tv') ∧ TrOK N tf' tl' th' zw zs zfr zto zk zt za zb ∧
      ((mX7_canMend sg tf' tl' th' = some 0 ∧ mX8_price (nI N) zj zw zs zfr zto zk zt za zb zl zv zlo zhi = some (-1, zj', zl', zv', zlo', zhi')) ∨
       (∃ (W : Nat → Int32) (m : Nat), m ≤ 200 ∧ (∀ t, t < 6 → mX7_needed sg tf' tl' th' (nI t) = some (W t) ∧ mX8_needOf zs zlo' zhi' (nI t) = some (W t) ∧ ∃ j, 2 ≤ j ∧ j ≤ 31 ∧ W t = nI j) ∧ mX7_canMend sg tf' tl' th' = some 1 ∧ mX7_price_L20 wd sg fr to pl kd tg sa sb bn pa FU tf' 1 tl' th' tv' 0 0 = some (nI m, tf', 1, tl', th', tv') ∧ mX8_price (nI N) zj zw zs zfr zto zk zt za zb zl zv zlo zhi = some (nI m, zj', zl', zv', zlo', zhi'))) := by
  have hsg : ∀ t, t < 6 → sg t = zs t := fun t ht => (hN.2.2 t ht).2.1
  obtain ⟨tf', tl', th', tv', e1, hOK⟩ := l_trues hP zw zs hI hU tv
  obtain ⟨fl, zj', zl', zv', zlo', zhi', e2, hTu⟩ := hOK zj zl zv zlo zhi
  refine ⟨tf', tl', th', tv', zj', zl', zv', zlo', zhi', e1, hOK, ?_⟩
  have hpr : mX8_price (nI N) zj zw zs zfr zto zk zt za zb zl zv zlo zhi = if fl = 0 then some (-1, zj', zl', zv', zlo', zhi') else mX8_price_L13 (nI N) zw zs zfr zto zk zt za zb FU zj' zl' zv' zlo' zhi' 0 0 := by
    unfold mX8_price
    rw [e2, Option.bind_some]
  rcases hTu with ⟨rfl, rfl, hT'⟩ | ⟨rfl, rfl⟩
  · rw [hpr, if_neg (show ¬ (1 : Int32) = 0 by decide)]
    obtain ⟨W, hW⟩ := needs_fun hsg hT'
    rcases can_loop (fun t ht => (hW t ht).1) with ⟨⟨t, ht, et⟩, hc⟩ | ⟨hall, hc⟩
    · exact Or.inl ⟨hc, price_none (nI N) zw (fun t ht => (hW t ht).2.1) zj' zl' zv' FU 0 0 (by omega) (by unfold FU; omega) ⟨t, by omega, ht, et⟩⟩
    · have hJ : ∀ t, t < 6 → ∃ j, 2 ≤ j ∧ j ≤ 31 ∧ W t = nI j := fun t ht => (hW t ht).2.2.resolve_left (hall t ht)
      obtain ⟨m, m1, m2, m3⟩ := price_loop (fr := fr) (to := to) (kd := kd) (tg := tg) (sa := sa) (sb := sb) (bn := bn) (pa := pa) (zfr := zfr) (zto := zto) (zk := zk) (zt := zt) (za := za) (zb := zb) (pl := pl) (kn := 1) (tv := tv') (nI N) (wd := wd) (zw := zw) (fun t ht => (hW t ht).1) (fun t ht => (hW t ht).2.1) (fun t ht => by obtain ⟨j, j1, j2, j3⟩ := hJ t ht; exact ⟨j, j2, j3⟩) (fun t ht => by obtain ⟨q1, -, -, ⟨k, k1, k2, k3⟩, -⟩ := hN.2.2 t ht; exact ⟨q1, k, k2, k3⟩) zj' zl' zv' FU 0 0 (by omega) (by unfold FU; omega) (by omega)
      exact Or.inr ⟨W, m, m1, fun t ht => ⟨(hW t ht).1, (hW t ht).2.1, hJ t ht⟩, hc, m2, m3⟩
  · rw [hpr, if_pos (show (0 : Int32) = 0 from rfl)]
    refine Or.inl ⟨?_, rfl⟩
    rcases can_loop (sg := sg) (tl := tl') (th := th') (W := fun _ => -1) (fun t ht => needed_far sg tl' th' (nI t)) with ⟨-, hc⟩ | ⟨hall, -⟩
    · exact hc
    · exact absurd rfl (hall 0 (by decide))
theorem p_price {nr : Int32} {wd : Nat → Int32} {sg : Nat → Int32} {lw : Nat → Int64} {hg : Nat → Int64} {fr : Nat → Int32} {to : Nat → Int32} {sn : Int32} {pl : Int32} {kd : Nat → Int32} {tg : Nat → Int32} {sa : Nat → Int32} {sb : Nat → Int32} {bn : Nat → Int32} {mt : Nat → Int32} {pa : Nat → Int32} {ro : Int32} {tk : Int32} {ov : Nat → Int32} {sh : Nat → Int32} {tu : Nat → Int32} {rk : Int32} {cb : Int32} {rl : Nat → Int64} {rg : Nat → Int64} {tf : Int32} {kn : Int32} {tl : Nat → Int64} {th : Nat → Int64} {zn : Int32} {zm : Int32} {zw : Nat → Int32} {zs : Nat → Int32} {zfr : Nat → Int32} {zto : Nat → Int32} {zk : Nat → Int32} {zt : Nat → Int32} {za : Nat → Int32} {zb : Nat → Int32} {zq : Nat → Int32} (h : Inv nr wd sg lw hg fr to sn pl kd tg sa sb bn mt pa ro tk ov sh tu rk cb rl rg tf kn tl th zn zm zw zs zfr zto zk zt za zb zq) (tv : Nat → Int64) (zj : Int32) (zl : Nat → Int32) (zv : Nat → Int64) (zlo : Nat → Int64) (zhi : Nat → Int64)  : ∃ (r : Int32) (tf' : Int32) (kn' : Int32) (tl' : Nat → Int64) (th' : Nat → Int64) (tv' : Nat → Int64) (zj' : Int32) (zl' : Nat → Int32) (zv' : Nat → Int64) (zlo' : Nat → Int64) (zhi' : Nat → Int64), mX7_price wd sg fr to pl kd tg sa sb bn pa tf kn tl th tv  = some (r, tf', kn', tl', th', tv') ∧ mX8_price zn zj zw zs zfr zto zk zt za zb zl zv zlo zhi  = some (r, zj', zl', zv', zlo', zhi') ∧ Inv nr wd sg lw hg fr to sn pl kd tg sa sb bn mt pa ro tk ov sh tu rk cb rl rg tf' kn' tl' th' zn zm zw zs zfr zto zk zt za zb zq := by
  have h0 := h
  obtain ⟨N, d0, d1, rfl, rfl, hN, hI, hS, hM, hP, hT, hR, hU⟩ := h
  have hN24 := hS.1
  obtain ⟨tf', tl', th', tv', zj', zl', zv', zlo', zhi', e1, hOK, hc⟩ := price_rel hN hP hI hU tv zj zl zv zlo zhi
  unfold mX7_price
  rw [e1, Option.bind_some]
  rcases hc with ⟨c1, c2⟩ | ⟨W, m, m1, hW, c1, c2, c3⟩
  · rw [c1, c2, Option.bind_some, if_pos (show (0 : Int32) = 0 from rfl)]
    exact ⟨-1, tf', 1, tl', th', tv', zj', zl', zv', zlo', zhi', rfl, rfl, N, d0, d1, rfl, rfl, hN, hI, hS, hM, hP, hT, hR, Or.inr ⟨rfl, hOK⟩⟩
  · rw [c1, c3, Option.bind_some, if_neg (show ¬ (1 : Int32) = 0 by decide)]
    exact ⟨nI m, tf', 1, tl', th', tv', zj', zl', zv', zlo', zhi', c2, rfl, N, d0, d1, rfl, rfl, hN, hI, hS, hM, hP, hT, hR, Or.inr ⟨rfl, hOK⟩⟩
theorem upd_self (f : Nat → Int32) (n : Nat) : upd f n (f n) = f := by
  funext j
  unfold upd
  by_cases q : j = n
  · rw [if_pos q, q]
  · rw [if_neg q]
theorem mend_loop {nr zm : Int32} {sg zs : Nat → Int32} {fr to kd tg sa sb bn pa zfr zto zk zt za zb : Nat → Int32} {zn pl tk rk tf kn : Int32} {tl th tv zlo zhi : Nat → Int64} {W : Nat → Int32} (hW : ∀ t, t < 6 → mX7_needed sg tf tl th (nI t) = some (W t) ∧ mX8_needOf zs zlo zhi (nI t) = some (W t) ∧ ∃ j, 2 ≤ j ∧ j ≤ 31 ∧ W t = nI j) (zj : Int32) (zl : Nat → Int32) (zv : Nat → Int64) :
    ∀ (n i : Nat) (x : Int32) (wd : Nat → Int32) (lw hg : Nat → Int64) (zw : Nat → Int32), i ≤ 6 → 6 - i < n → NmR nr wd sg lw hg zm zw zs → ∃ (r : Int32) (wd' : Nat → Int32) (lw' hg' : Nat → Int64) (zw' : Nat → Int32), NmR nr wd' sg lw' hg' zm zw' zs ∧ mX7_mend_L20 fr to pl kd tg sa sb bn pa n wd sg lw hg tk rk tf kn tl th tv x (nI i) = some (r, wd', sg, lw', hg', 0, 0, tf, 0, tl, th, tv) ∧ mX8_mend_L14 zn zs zfr zto zk zt za zb n zj zw zl zv zlo zhi x (nI i) = some (r, zj, zw', zl, zv, zlo, zhi) := by
  intro n
  induction n with
  | zero => intro i x wd lw hg zw h1 h2; omega
  | succ n ih =>
    intro i x wd lw hg zw hi hn hNm
    rw [mX7_mend_L20, mX8_mend_L14]
    by_cases he : i = 6
    · subst he
      rw [if_pos (show (6 : Int32) ≤ nI 6 by decide), if_pos (show (6 : Int32) ≤ nI 6 by decide)]
      exact ⟨_, _, _, _, _, hNm, rfl, rfl⟩
    · have hlt : i < 6 := by omega
      have g := gd_nI hlt (show 6 < 2147483648 by decide)
      obtain ⟨w1, w2, j, j1, j2, ej⟩ := hW i hlt
      obtain ⟨ew, es, h01, -⟩ := hNm.2.2 i hlt
      rw [if_neg (show ¬ (6 : Int32) ≤ nI i from nle_of (n := 6) hlt (by decide)), if_neg (show ¬ (6 : Int32) ≤ nI i from nle_of (n := 6) hlt (by decide)), w1, w2, Option.bind_some, Option.bind_some, if_neg g, if_neg g, tn_nI (by omega), ew, nI_1]
      by_cases q : zw i < W i
      · have q' : ¬ W i ≤ zw i := fun z => by rw [Int32.lt_iff_toInt_lt] at q; rw [Int32.le_iff_toInt_le] at z; omega
        have hNm2 := hNm.tell (n := i) j1 j2 (g := sg i) (by rw [es]; exact h01)
        have e1 : upd zs i (sg i) = zs := by rw [es]; exact upd_self zs i
        rw [e1, upd_self, ← ej] at hNm2
        rw [if_neg q', if_pos q, c_tell hlt, Option.bind_some, nar_b (by rw [es]; exact h01), upd_self]
        exact ih (i + 1) (x + 1) _ _ _ _ (by omega) (by omega) hNm2
      · have q' : W i ≤ zw i := by rw [Int32.lt_iff_toInt_lt] at q; rw [Int32.le_iff_toInt_le]; omega
        rw [if_pos q', if_neg q]
        exact ih (i + 1) x _ _ _ _ (by omega) (by omega) hNm
theorem p_mend {nr : Int32} {wd : Nat → Int32} {sg : Nat → Int32} {lw : Nat → Int64} {hg : Nat → Int64} {fr : Nat → Int32} {to : Nat → Int32} {sn : Int32} {pl : Int32} {kd : Nat → Int32} {tg : Nat → Int32} {sa : Nat → Int32} {sb : Nat → Int32} {bn : Nat → Int32} {mt : Nat → Int32} {pa : Nat → Int32} {ro : Int32} {tk : Int32} {ov : Nat → Int32} {sh : Nat → Int32} {tu : Nat → Int32} {rk : Int32} {cb : Int32} {rl : Nat → Int64} {rg : Nat → Int64} {tf : Int32} {kn : Int32} {tl : Nat → Int64} {th : Nat → Int64} {zn : Int32} {zm : Int32} {zw : Nat → Int32} {zs : Nat → Int32} {zfr : Nat → Int32} {zto : Nat → Int32} {zk : Nat → Int32} {zt : Nat → Int32} {za : Nat → Int32} {zb : Nat → Int32} {zq : Nat → Int32} (h : Inv nr wd sg lw hg fr to sn pl kd tg sa sb bn mt pa ro tk ov sh tu rk cb rl rg tf kn tl th zn zm zw zs zfr zto zk zt za zb zq) (tv : Nat → Int64) (zj : Int32) (zl : Nat → Int32) (zv : Nat → Int64) (zlo : Nat → Int64) (zhi : Nat → Int64)  : ∃ (r : Int32) (wd' : Nat → Int32) (sg' : Nat → Int32) (lw' : Nat → Int64) (hg' : Nat → Int64) (tk' : Int32) (rk' : Int32) (tf' : Int32) (kn' : Int32) (tl' : Nat → Int64) (th' : Nat → Int64) (tv' : Nat → Int64) (zj' : Int32) (zw' : Nat → Int32) (zl' : Nat → Int32) (zv' : Nat → Int64) (zlo' : Nat → Int64) (zhi' : Nat → Int64), mX7_mend wd sg lw hg fr to pl kd tg sa sb bn pa tk rk tf kn tl th tv  = some (r, wd', sg', lw', hg', tk', rk', tf', kn', tl', th', tv') ∧ mX8_mend zn zj zw zs zfr zto zk zt za zb zl zv zlo zhi  = some (r, zj', zw', zl', zv', zlo', zhi') ∧ Inv nr wd' sg' lw' hg' fr to sn pl kd tg sa sb bn mt pa ro tk' ov sh tu rk' cb rl rg tf' kn' tl' th' zn zm zw' zs zfr zto zk zt za zb zq := by
  have h0 := h
  obtain ⟨N, d0, d1, rfl, rfl, hN, hI, hS, hM, hP, hT, hR, hU⟩ := h
  have hN24 := hS.1
  obtain ⟨tf', tl', th', tv', zj', zl', zv', zlo', zhi', e1, hOK, hc⟩ := price_rel hN hP hI hU tv zj zl zv zlo zhi
  unfold mX7_mend mX8_mend
  rw [e1, Option.bind_some]
  rcases hc with ⟨c1, c2⟩ | ⟨W, m, m1, hW, c1, c2, c3⟩
  · rw [c1, c2, Option.bind_some, Option.bind_some, if_pos (show (0 : Int32) = 0 from rfl), if_pos (show (-1 : Int32) = -1 from rfl)]
    exact ⟨-1, wd, sg, lw, hg, tk, rk, tf', 1, tl', th', tv', zj', zw, zl', zv', zlo', zhi', rfl, rfl, N, d0, d1, rfl, rfl, hN, hI, hS, hM, hP, hT, hR, Or.inr ⟨rfl, hOK⟩⟩
  · obtain ⟨r, wd', lw', hg', zw', r1, r2, r3⟩ := mend_loop (fr := fr) (to := to) (kd := kd) (tg := tg) (sa := sa) (sb := sb) (bn := bn) (pa := pa) (zfr := zfr) (zto := zto) (zk := zk) (zt := zt) (za := za) (zb := zb) (zn := nI N) (pl := pl) (tk := tk) (rk := rk) (kn := 1) (tv := tv') hW zj' zl' zv' FU 0 0 wd lw hg zw (by omega) (by unfold FU; omega) hN
    rw [c1, c3, Option.bind_some, Option.bind_some, if_neg (show ¬ (1 : Int32) = 0 by decide), if_neg (nI_ne_m1 (by omega))]
    exact ⟨r, wd', sg, lw', hg', 0, 0, tf', 0, tl', th', tv', zj', zw', zl', zv', zlo', zhi', r2, r3, N, d0, d1, rfl, rfl, r1, hI, hS, hM, hP, Or.inl rfl, Or.inl rfl, Or.inl rfl⟩
