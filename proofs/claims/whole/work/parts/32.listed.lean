abbrev K16 : Type := Int32 → Int32 → Int32 → (Nat → Int32) → (Nat → Int64) → (Nat → Int32) → (Nat → Int32) → (Nat → Int32) → (Nat → Int32) → (Nat → Int32) → (Nat → Int64) → (Nat → Int64) → (Nat → Int32) → Int32 → Int32 → Option (Int32 × Int32 × Int32 × Int32 × (Nat → Int32) × (Nat → Int64) × (Nat → Int32) × (Nat → Int32) × (Nat → Int32) × (Nat → Int32) × (Nat → Int32) × (Nat → Int64) × (Nat → Int64) × (Nat → Int32))
/-- is a step LISTED? -/
theorem listed_c {N : Nat} (hN24 : N ≤ 24) {fr to mt ov : Nat → Int32} {cb : Int32} {J : Nat → Int32} (hJ : ∀ s, s < N → mX7_judged fr to ov cb (nI s) = some (J s)) {s : Nat} (hs : s < N) : mX7_isListed fr to mt ov cb (nI s) = some (if mt s = 0 then (if J s < 2 then 0 else 1) else 0) := by
  unfold mX7_isListed
  rw [if_neg (gd_nI (show s < 24 by omega) (by decide)), tn_nI (by omega), hJ s hs, Option.bind_some]
  by_cases q : mt s = 0
  · rw [if_pos q, if_pos q]
    by_cases q2 : J s < 2
    · rw [if_pos q2, if_pos q2]
    · rw [if_neg q2, if_neg q2]
  · rw [if_neg q, if_neg q]
theorem before_c {N : Nat} (hN24 : N ≤ 24) {ov : Nat → Int32} {o s : Nat} (ho : o < N) (hs : s < N) : mX7_comesBefore ov (nI o) (nI s) = some (if ov o = ov s then (if nI s ≤ nI o then 0 else 1) else (if ov o ≤ ov s then 0 else 1)) := by
  unfold mX7_comesBefore
  rw [if_neg (gd_nI (show o < 24 by omega) (by decide)), if_neg (gd_nI (show s < 24 by omega) (by decide)), tn_nI (by omega), tn_nI (by omega)]
  by_cases q : ov o = ov s
  · rw [if_pos q, if_pos q]; exact ite_some _ _ _
  · rw [if_neg q, if_neg q]; exact ite_some _ _ _
theorem ahead_rel {N : Nat} (hN24 : N ≤ 24) {fr to mt ov zfr zto zov zc zq : Nat → Int32} {cb : Int32} {J : Nat → Int32} (hJ : ∀ s, s < N → mX7_judged fr to ov cb (nI s) = some (J s) ∧ mX8_judged zfr zto zov zc (nI s) = some (J s) ∧ (J s = 0 ∨ J s = 1 ∨ J s = 2 ∨ J s = 3)) (hov : ∀ s, s < N → ov s = zov s) (hmt : ∀ s, s < N → mt s = zq s) {s : Nat} (hs : s < N) (k16 : K16) (zm : Int32) (zw zs zk zt za zb : Nat → Int32) (zj zf zr : Int32) (zl : Nat → Int32) (zv : Nat → Int64) (zo zu ztu zsh : Nat → Int32) (zle zmo : Nat → Int64) (x1 : Int32) :
    ∀ (n i c : Nat), i ≤ N → N - i < n → c ≤ i → ∃ c', c' ≤ N ∧ mX7_listedBefore_L4 fr to (nI N) mt ov cb n (nI s) (nI c) (nI i) = some (nI c') ∧ mX8_listed_L50 (nI N) zm zw zs zfr zto zk zt za zb zq k16 n zj zf zr zl zv zo zu zov ztu zsh zle zmo zc x1 (nI s) (nI c) (nI i) = if nI c' = x1 then some (nI s, zj, zf, zr, zl, zv, zo, zu, zov, ztu, zsh, zle, zmo, zc) else k16 zj zf zr zl zv zo zu zov ztu zsh zle zmo zc x1 (nI (s + 1)) := by
  intro n
  induction n with
  | zero => intro i c h1 h2; omega
  | succ n ih =>
    intro i c hi hn hc
    rw [mX7_listedBefore_L4, mX8_listed_L50]
    by_cases he : i = N
    · subst he
      rw [if_pos (le_of (Nat.le_refl _) (by omega)), if_pos (le_of (Nat.le_refl _) (by omega)), nI_1]
      exact ⟨c, by omega, rfl, rfl⟩
    · have hlt : i < N := by omega
      obtain ⟨j1, j2, j3⟩ := hJ i hlt
      have g := gd_nI (show i < 24 by omega) (show 24 < 2147483648 by decide)
      have gs := gd_nI (show s < 24 by omega) (show 24 < 2147483648 by decide)
      rw [if_neg (nle_of hlt (by omega)), if_neg (nle_of hlt (by omega)), listed_c hN24 (fun s hs => (hJ s hs).1) hlt, Option.bind_some, hmt i hlt, before_c hN24 hlt hs, Option.bind_some, hov i hlt, hov s hs, j2, Option.bind_some, if_neg g, if_neg gs, tn_nI (by omega), tn_nI (by omega), nI_1, nI_1]
      have same := ih (i + 1) c (by omega) (by omega) (by omega)
      have more := ih (i + 1) (c + 1) (by omega) (by omega) (by omega)
      by_cases qs : i = s
      · subst qs
        rw [if_pos (show nI i = nI i from rfl), if_pos (show zov i = zov i from rfl), if_pos (le_of (Nat.le_refl _) (by omega)), if_pos (show (0 : Int32) = 0 from rfl)]
        by_cases q : (if zq i = 0 then (if J i < 2 then (0 : Int32) else 1) else 0) = 0
        · rw [if_pos q]; exact same
        · rw [if_neg q]; exact same
      · have qn : ¬ nI i = nI s := fun z => qs ((nI_eq (by omega) (by omega)).mp z)
        rw [if_neg qn]
        by_cases qj : J i < 2
        · have qj' : J i ≤ 1 := by
            rcases j3 with e | e | e | e <;> rw [e] at qj ⊢ <;> first | decide | exact absurd qj (by decide)
          rw [if_pos qj', if_pos qj]
          by_cases q : zq i = 0
          · rw [if_pos q, if_pos (show (0 : Int32) = 0 from rfl)]; exact same
          · rw [if_neg q, if_pos (show (0 : Int32) = 0 from rfl)]; exact same
        · have qj' : ¬ J i ≤ 1 := by
            rcases j3 with e | e | e | e <;> rw [e] at qj ⊢ <;> first | decide | exact absurd (by decide) qj
          rw [if_neg qj', if_neg qj]
          by_cases q : zq i = 0
          · rw [if_pos q, if_pos q, if_neg (show ¬ (1 : Int32) = 0 by decide)]
            by_cases qe : zov i = zov s
            · have nl : ¬ zov s < zov i := fun z => by rw [Int32.lt_iff_toInt_lt, qe] at z; omega
              rw [if_pos qe, if_neg nl, if_pos qe]
              by_cases ql : nI s ≤ nI i
              · rw [if_pos ql, if_pos ql, if_pos (show (0 : Int32) = 0 from rfl)]; exact same
              · rw [if_neg ql, if_neg ql, if_neg (show ¬ (1 : Int32) = 0 by decide)]; exact more
            · rw [if_neg qe]
              by_cases ql : zov i ≤ zov s
              · have nl : ¬ zov s < zov i := fun z => by rw [Int32.lt_iff_toInt_lt] at z; rw [Int32.le_iff_toInt_le] at ql; omega
                rw [if_pos ql, if_pos (show (0 : Int32) = 0 from rfl), if_neg nl, if_neg qe]; exact same
              · have nl : zov s < zov i := by rw [Int32.lt_iff_toInt_lt]; rw [Int32.le_iff_toInt_le] at ql; omega
                rw [if_neg ql, if_neg (show ¬ (1 : Int32) = 0 by decide), if_pos nl]; exact more
          · rw [if_neg q, if_neg q, if_pos (show (0 : Int32) = 0 from rfl)]; exact same
theorem list_loop {N : Nat} (hN24 : N ≤ 24) {fr to mt ov zfr zto zov zc zq : Nat → Int32} {cb : Int32} {J : Nat → Int32} (hJ : ∀ s, s < N → mX7_judged fr to ov cb (nI s) = some (J s) ∧ mX8_judged zfr zto zov zc (nI s) = some (J s) ∧ (J s = 0 ∨ J s = 1 ∨ J s = 2 ∨ J s = 3)) (hov : ∀ s, s < N → ov s = zov s) (hmt : ∀ s, s < N → mt s = zq s) (zm : Int32) (zw zs zk zt za zb : Nat → Int32) (zj zf zr : Int32) (zl : Nat → Int32) (zv : Nat → Int64) (zo zu ztu zsh : Nat → Int32) (zle zmo : Nat → Int64) (nr : Int32) (wd sg : Nat → Int32) (lw hg : Nat → Int64) (pl : Int32) (kd tg sa sb bn pa : Nat → Int32) (ob tb fo : Int32) (rv : Nat → Int64) (ro tk : Int32) (sh tu : Nat → Int32) (rk : Int32) (rlo rhi : Int64) (rl rg : Nat → Int64) (x1 : Int32) :
    ∀ (n s : Nat), s ≤ N → N - s < n → ∃ r : Int32, (x1 < 0 → r = -1) ∧ mX7_listed_L16 nr wd sg lw hg fr to (nI N) pl kd tg sa sb bn mt pa n ob tb fo rv ro tk ov sh tu rk cb rlo rhi rl rg x1 (nI s) = some (r, ob, tb, fo, rv, ro, tk, ov, sh, tu, rk, cb, rlo, rhi, rl, rg) ∧ mX8_listed_L16 (nI N) zm zw zs zfr zto zk zt za zb zq n zj zf zr zl zv zo zu zov ztu zsh zle zmo zc x1 (nI s) = some (r, zj, zf, zr, zl, zv, zo, zu, zov, ztu, zsh, zle, zmo, zc) := by
  intro n
  induction n with
  | zero => intro s h1 h2; omega
  | succ n ih =>
    intro s hs hn
    rw [mX7_listed_L16, mX8_listed_L16]
    by_cases he : s = N
    · subst he
      rw [if_pos (le_of (Nat.le_refl _) (by omega)), if_pos (le_of (Nat.le_refl _) (by omega))]
      exact ⟨-1, fun _ => rfl, rfl, rfl⟩
    · have hlt : s < N := by omega
      obtain ⟨j1, j2, j3⟩ := hJ s hlt
      have g := gd_nI (show s < 24 by omega) (show 24 < 2147483648 by decide)
      rw [if_neg (nle_of hlt (by omega)), if_neg (nle_of hlt (by omega)), listed_c hN24 (fun s hs => (hJ s hs).1) hlt, Option.bind_some, hmt s hlt, j2, Option.bind_some, if_neg g, tn_nI (by omega), nI_1]
      have next := ih (s + 1) (by omega) (by omega)
      by_cases qj : J s < 2
      · rw [if_pos qj, if_pos qj]
        by_cases q : zq s = 0
        · rw [if_pos q, if_pos (show (0 : Int32) = 0 from rfl)]; exact next
        · rw [if_neg q, if_pos (show (0 : Int32) = 0 from rfl)]; exact next
      · rw [if_neg qj, if_neg qj]
        by_cases q : zq s = 0
        · obtain ⟨c', hc', r1, r2⟩ := ahead_rel hN24 hJ hov hmt hlt (mX8_listed_L16 (nI N) zm zw zs zfr zto zk zt za zb zq n) zm zw zs zk zt za zb zj zf zr zl zv zo zu ztu zsh zle zmo x1 FU 0 0 (Nat.zero_le _) (by unfold FU; omega) (Nat.le_refl _)
          have r1' : mX7_listedBefore fr to (nI N) mt ov cb (nI s) = some (nI c') := r1
          have r2' : mX8_listed_L50 (nI N) zm zw zs zfr zto zk zt za zb zq (mX8_listed_L16 (nI N) zm zw zs zfr zto zk zt za zb zq n) FU zj zf zr zl zv zo zu zov ztu zsh zle zmo zc x1 (nI s) 0 0 = _ := r2
          rw [if_pos q, if_pos q, if_neg (show ¬ (1 : Int32) = 0 by decide), r1', Option.bind_some, r2']
          by_cases qx : nI c' = x1
          · rw [if_pos qx, if_pos qx]
            refine ⟨nI s, fun hx => ?_, rfl, rfl⟩
            rw [← qx] at hx
            exact absurd hx (nI_pos (by omega))
          · rw [if_neg qx, if_neg qx]; exact next
        · rw [if_neg q, if_neg q, if_pos (show (0 : Int32) = 0 from rfl)]; exact next
theorem p_listed {nr : Int32} {wd : Nat → Int32} {sg : Nat → Int32} {lw : Nat → Int64} {hg : Nat → Int64} {fr : Nat → Int32} {to : Nat → Int32} {sn : Int32} {pl : Int32} {kd : Nat → Int32} {tg : Nat → Int32} {sa : Nat → Int32} {sb : Nat → Int32} {bn : Nat → Int32} {mt : Nat → Int32} {pa : Nat → Int32} {ro : Int32} {tk : Int32} {ov : Nat → Int32} {sh : Nat → Int32} {tu : Nat → Int32} {rk : Int32} {cb : Int32} {rl : Nat → Int64} {rg : Nat → Int64} {tf : Int32} {kn : Int32} {tl : Nat → Int64} {th : Nat → Int64} {zn : Int32} {zm : Int32} {zw : Nat → Int32} {zs : Nat → Int32} {zfr : Nat → Int32} {zto : Nat → Int32} {zk : Nat → Int32} {zt : Nat → Int32} {za : Nat → Int32} {zb : Nat → Int32} {zq : Nat → Int32} (h : Inv nr wd sg lw hg fr to sn pl kd tg sa sb bn mt pa ro tk ov sh tu rk cb rl rg tf kn tl th zn zm zw zs zfr zto zk zt za zb zq) (ob : Int32) (tb : Int32) (fo : Int32) (rv : Nat → Int64) (rlo : Int64) (rhi : Int64) (zj : Int32) (zf : Int32) (zr : Int32) (zl : Nat → Int32) (zv : Nat → Int64) (zo : Nat → Int32) (zu : Nat → Int32) (zov : Nat → Int32) (ztu : Nat → Int32) (zsh : Nat → Int32) (zle : Nat → Int64) (zmo : Nat → Int64) (zc : Nat → Int32) (x1 : Int32) : ∃ (r : Int32) (ob' : Int32) (tb' : Int32) (fo' : Int32) (rv' : Nat → Int64) (ro' : Int32) (tk' : Int32) (ov' : Nat → Int32) (sh' : Nat → Int32) (tu' : Nat → Int32) (rk' : Int32) (cb' : Int32) (rlo' : Int64) (rhi' : Int64) (rl' : Nat → Int64) (rg' : Nat → Int64) (zj' : Int32) (zf' : Int32) (zr' : Int32) (zl' : Nat → Int32) (zv' : Nat → Int64) (zo' : Nat → Int32) (zu' : Nat → Int32) (zov' : Nat → Int32) (ztu' : Nat → Int32) (zsh' : Nat → Int32) (zle' : Nat → Int64) (zmo' : Nat → Int64) (zc' : Nat → Int32), mX7_listed nr wd sg lw hg fr to sn pl kd tg sa sb bn mt pa ob tb fo rv ro tk ov sh tu rk cb rlo rhi rl rg x1 = some (r, ob', tb', fo', rv', ro', tk', ov', sh', tu', rk', cb', rlo', rhi', rl', rg') ∧ mX8_listed zn zm zj zf zr zw zs zfr zto zk zt za zb zq zl zv zo zu zov ztu zsh zle zmo zc x1 = some (r, zj', zf', zr', zl', zv', zo', zu', zov', ztu', zsh', zle', zmo', zc') ∧ Inv nr wd sg lw hg fr to sn pl kd tg sa sb bn mt pa ro' tk' ov' sh' tu' rk' cb' rl' rg' tf kn tl th zn zm zw zs zfr zto zk zt za zb zq := by
  have h0 := h
  obtain ⟨N, d0, d1, rfl, rfl, hN, hI, hS, hM, hP, hT, hR, hU⟩ := h
  have hN24 := hS.1
  obtain ⟨cb', rlo', rhi', rl', rg', e1, hOK1⟩ := l_reach hN hN24 hP hI hR rlo rhi
  obtain ⟨zj1, zl1, zle', zmo', zc', e2, hRc⟩ := hOK1 zj zl zle zmo zc
  obtain ⟨ob', tb', fo', rv', ro', ov', sh', tu', e3, hOK2⟩ := l_tally hN hN24 hP hI hT ob tb fo rv
  obtain ⟨zj', zf', zr', zl', zv', zo', zu', zov', ztu', zsh', e4, hTy⟩ := hOK2 zj1 zf zr zl1 zv zo zu zov ztu zsh
  obtain ⟨J, hJ⟩ : ∃ J : Nat → Int32, ∀ s, s < N → mX7_judged fr to ov' cb' (nI s) = some (J s) ∧ mX8_judged zfr zto zov' zc' (nI s) = some (J s) ∧ (J s = 0 ∨ J s = 1 ∨ J s = 2 ∨ J s = 3) := by
    refine ⟨fun s => if h : s < N then Classical.choose (judged_rel hI hN24 hTy hRc.2 h) else 0, fun s hs => ?_⟩
    have := Classical.choose_spec (judged_rel hI hN24 hTy hRc.2 hs)
    simp only [dif_pos hs]
    exact this
  obtain ⟨r, hneg, r1, r2⟩ := list_loop hN24 hJ (fun s hs => (hTy.2 s hs).1) (fun s hs => (hM.1 s hs).1) zm zw zs zk zt za zb zj' zf' zr' zl' zv' zo' zu' ztu' zsh' zle' zmo' nr wd sg lw hg pl kd tg sa sb bn pa ob' tb' fo' rv' ro' 1 sh' tu' 1 rlo' rhi' rl' rg' x1 FU 0 (Nat.zero_le _) (by unfold FU; omega)
  have hc : mX7_listed nr wd sg lw hg fr to (nI N) pl kd tg sa sb bn mt pa ob tb fo rv ro tk ov sh tu rk cb rlo rhi rl rg x1 = some (r, ob', tb', fo', rv', ro', 1, ov', sh', tu', 1, cb', rlo', rhi', rl', rg') := by
    unfold mX7_listed
    rw [e1, Option.bind_some, e3, Option.bind_some]
    exact r1
  unfold mX8_listed
  by_cases q : 0 ≤ x1
  · rw [hc, if_pos q, e2, Option.bind_some, e4, Option.bind_some]
    exact ⟨r, ob', tb', fo', rv', ro', 1, ov', sh', tu', 1, cb', rlo', rhi', rl', rg', zj', zf', zr', zl', zv', zo', zu', zov', ztu', zsh', zle', zmo', zc', rfl, r2, N, d0, d1, rfl, rfl, hN, hI, hS, hM, hP, Or.inr ⟨rfl, hOK2⟩, Or.inr ⟨rfl, hOK1⟩, hU⟩
  · have hx : x1 < 0 := by rw [Int32.lt_iff_toInt_lt]; rw [Int32.le_iff_toInt_le] at q; omega
    rw [hc, if_neg q, hneg hx]
    exact ⟨-1, ob', tb', fo', rv', ro', 1, ov', sh', tu', 1, cb', rlo', rhi', rl', rg', zj, zf, zr, zl, zv, zo, zu, zov, ztu, zsh, zle, zmo, zc, rfl, rfl, N, d0, d1, rfl, rfl, hN, hI, hS, hM, hP, Or.inr ⟨rfl, hOK2⟩, Or.inr ⟨rfl, hOK1⟩, hU⟩
