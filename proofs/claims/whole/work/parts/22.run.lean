/-! ===== a RUN: class and model in step ===== -/
def RunR (N : Nat) (ob tb fo : Int32) (rv : Nat → Int64) (zf : Int32) (zv : Nat → Int64) (zo zu : Nat → Int32) : Prop :=
  fo = zf ∧ (ob = 0 ↔ zf = -1) ∧ (∀ n, n < 6 → rv n = zv n) ∧ ∀ s, s < N → zo s = (if bt ob s = true then 1 else 0) ∧ zu s = (if bt tb s = true then 1 else 0)
def PaR (N len : Nat) (pl : Int32) (pa : Nat → Int32) (zj : Int32) (zl kd tg sa sb bn zk zt za zb : Nat → Int32) : Prop := N ≤ 24 ∧ len ≤ 288 ∧ pl = nI len ∧ zj = nI len ∧ ∀ i, i < len → ∃ s, s < N ∧ pa i = nI s ∧ zl i = nI s ∧ SpR kd tg sa sb bn zk zt za zb s
abbrev KR : Type := Int32 → (Nat → Int64) → (Nat → Int32) → (Nat → Int32) → Int32 → Option (Int32 × (Nat → Int64) × (Nat → Int32) × (Nat → Int32))
theorem m_L176 {zn zm zj : Int32} {zw zs zk zt za zb zl : Nat → Int32} {s t : Nat} (hs : s < 24) (et : zt s = nI t) (ht : t < 6) {g : Int32} {r v : Int64} (hg : mX8_goesOver zw zs (nI t) v = some g) (hr : mX8_put zm zw zs (nI t) v = some r) (k : KR) (zf : Int32) (zv : Nat → Int64) (zo zu : Nat → Int32) (x3 : Int32) :
    mX8_runs_L176 zn zm zj zw zs zk zt za zb zl k zf zv zo zu x3 (nI s) v = k (if g = 0 then zf else if zf = -1 then nI s else zf) (vp_updL zv t r) (if g = 0 then zo else upd zo s 1) zu (x3 + 1) := by
  have h214 : ∀ (zf : Int32) (zo : Nat → Int32), mX8_runs_L214 zn zm zj zw zs zk zt za zb zl k zf zv zo zu x3 (nI s) v = k zf (vp_updL zv t r) zo zu (x3 + 1) := by
    intro zf zo
    unfold mX8_runs_L214
    rw [if_neg (gd_nI hs (by decide)), tn_nI (by omega), et, hr, Option.bind_some, if_neg (gd_nI ht (by decide)), tn_nI (by omega)]
  unfold mX8_runs_L176
  rw [if_neg (gd_nI hs (by decide)), tn_nI (by omega), et, hg, Option.bind_some]
  by_cases h : g = 0
  · rw [if_pos h, if_pos h, if_pos h, h214]
  · rw [if_neg h, if_neg h, if_neg h, nar1]
    by_cases h2 : zf = -1
    · rw [if_pos h2, if_pos h2, h214]
    · rw [if_neg h2, if_neg h2, h214]
/-- the model's body for one STEP of the line -/
def mBody (zn zm zj : Int32) (zw zs zk zt za zb zl : Nat → Int32) (k : KR) (zf : Int32) (zv : Nat → Int64) (zo zu : Nat → Int32) (x3 x4 : Int32) : Option (Int32 × (Nat → Int64) × (Nat → Int32) × (Nat → Int32)) :=
  (mX8_valueOf zw zs zk za zb zv x4).bind (fun u9 =>
   if x4 < 0 ∨ 24 ≤ Int32.toNatClampNeg x4 then none else
   if zk (Int32.toNatClampNeg x4) = 7 then
   if u9 = (1 : Int64) then
   mX8_runs_L132 zn zm zj zw zs zk zt za zb zl k zf zv zo zu x3 x4 u9 1 else
   mX8_runs_L132 zn zm zj zw zs zk zt za zb zl k zf zv zo zu x3 x4 u9 0 else
   mX8_runs_L176 zn zm zj zw zs zk zt za zb zl k zf zv zo zu x3 x4 u9)
theorem c_perform {nr : Int32} {wd sg : Nat → Int32} {lw hg : Nat → Int64} {kd tg sa sb bn : Nat → Int32} {s t : Nat} (hs : s < 24) (et : tg s = nI t) (ht : t < 6) {ob tb fo tb' g : Int32} {rv : Nat → Int64} {v r : Int64} (ha : mX3_answer wd sg kd sa sb bn tb rv (nI s) = some (v, tb')) (hg1 : mX1_holds lw hg (nI t) v = some g) (hr : mX1_fitted nr wd lw hg (nI t) v = some r) :
    mX3_perform nr wd sg lw hg kd tg sa sb bn ob tb fo rv (nI s) = some (if g = 0 then ob ||| ((1 : Int32) <<< (nI s &&& 31)) else ob, tb', if g = 0 then (if ob = 0 then nI s else fo) else fo, vp_updL rv t r) := by
  unfold mX3_perform
  rw [if_neg (gd_nI hs (by decide)), ha, Option.bind_some, tn_nI (by omega), et, hg1, Option.bind_some, hr]
  by_cases h : g = 0
  · rw [if_pos h, if_pos h, if_pos h]
    unfold mX3_noteOver
    by_cases h2 : ob = 0
    · rw [if_pos h2, if_pos h2, Option.bind_some, Option.bind_some, if_neg (gd_nI ht (by decide)), tn_nI (by omega)]
    · rw [if_neg h2, if_neg h2, Option.bind_some, Option.bind_some, if_neg (gd_nI ht (by decide)), tn_nI (by omega)]
  · rw [if_neg h, if_neg h, if_neg h, Option.bind_some, if_neg (gd_nI ht (by decide)), tn_nI (by omega)]
theorem nI_ne_m1 {s : Nat} (h : s < 2147483648) : ¬ nI s = -1 := by
  intro q
  have h1 := nI_toInt (n := s) h
  rw [q] at h1
  have h2 : (-1 : Int32).toInt = -1 := by decide
  omega
theorem run_step {nr : Int32} {wd sg : Nat → Int32} {lw hg : Nat → Int64} {zm : Int32} {zw zs : Nat → Int32} (hN : NmR nr wd sg lw hg zm zw zs) {kd tg sa sb bn zk zt za zb : Nat → Int32} {s N : Nat} (hsN : s < N) (hN24 : N ≤ 24) (hp : SpR kd tg sa sb bn zk zt za zb s) {ob tb fo zf : Int32} {rv zv : Nat → Int64} {zo zu : Nat → Int32} (hR : RunR N ob tb fo rv zf zv zo zu) :
    ∃ (ob' tb' fo' : Int32) (rv' : Nat → Int64) (zf' : Int32) (zv' : Nat → Int64) (zo' zu' : Nat → Int32), mX3_perform nr wd sg lw hg kd tg sa sb bn ob tb fo rv (nI s) = some (ob', tb', fo', rv') ∧ RunR N ob' tb' fo' rv' zf' zv' zo' zu' ∧
      ∀ (zn zj : Int32) (zl : Nat → Int32) (k : KR) (x3 : Int32), mBody zn zm zj zw zs zk zt za zb zl k zf zv zo zu x3 (nI s) = k zf' zv' zo' zu' (x3 + 1) := by
  have hs : s < 24 := by omega
  obtain ⟨efo, hob, hv, hbits⟩ := hR
  obtain ⟨v, tr, hval, hans, hn7, h7⟩ := val_rel hN hs hp hv tb
  obtain ⟨ek, -, et, ⟨t, ht, ett⟩, -, -⟩ := id hp
  obtain ⟨r, hr1, hr2⟩ := put_rel hN ht v
  have ezt : zt s = nI t := et.symm.trans ett
  -- the marks of turned
  have hzu : ∀ j, j < N → (if tr = true then upd zu s 1 else zu) j = if bt (if tr = true then tb ||| ((1 : Int32) <<< (nI s &&& 31)) else tb) j = true then 1 else 0 := by
    intro j hj
    by_cases h : tr = true
    · rw [if_pos h, if_pos h, orb tb (by omega) (by omega)]
      unfold upd
      by_cases hj2 : j = s
      · subst hj2; simp
      · rw [if_neg hj2, (hbits j hj).2]
        have : ¬ s = j := fun q => hj2 q.symm
        simp [this]
    · rw [if_neg h, if_neg h]; exact (hbits j hj).2
  -- the model's body comes to L176
  have hbody : ∀ (zn zj : Int32) (zl : Nat → Int32) (k : KR) (x3 : Int32), mBody zn zm zj zw zs zk zt za zb zl k zf zv zo zu x3 (nI s) = mX8_runs_L176 zn zm zj zw zs zk zt za zb zl k zf zv zo (if tr = true then upd zu s 1 else zu) x3 (nI s) v := by
    intro zn zj zl k x3
    unfold mBody
    rw [hval, Option.bind_some, if_neg (gd_nI hs (by decide)), tn_nI (by omega)]
    by_cases h : zk s = 7
    · obtain ⟨a, b, ha, hb, ea, eb, hv01, htr⟩ := h7 h
      have h132 : ∀ t0 : Int32, mX8_runs_L132 zn zm zj zw zs zk zt za zb zl k zf zv zo zu x3 (nI s) v t0 = if t0 = (if zv b ≤ zv a then 0 else 1) then mX8_runs_L176 zn zm zj zw zs zk zt za zb zl k zf zv zo zu x3 (nI s) v else mX8_runs_L176 zn zm zj zw zs zk zt za zb zl k zf zv zo (upd zu s 1) x3 (nI s) v := by
        intro t0
        unfold mX8_runs_L132
        rw [if_neg (gd_nI hs (by decide)), tn_nI (by omega), ea, eb, if_neg (gd_nI ha (by decide)), if_neg (gd_nI hb (by decide)), tn_nI (by omega), tn_nI (by omega), nar1]
        by_cases h2 : zv b ≤ zv a
        · rw [if_pos h2, if_pos h2]
        · rw [if_neg h2, if_neg h2]
      rw [if_pos h, h132, h132]
      by_cases h2 : zv b ≤ zv a
      · rw [if_pos h2] at htr ⊢
        rcases hv01 with e | e
        · have hf : ¬ tr = true := fun q => htr.mp q e
          rw [if_neg (by rw [e]; decide), if_pos rfl, if_neg hf]
        · have hf : tr = true := htr.mpr (by rw [e]; decide)
          rw [if_pos e, if_neg (by decide), if_pos hf]
      · rw [if_neg h2] at htr ⊢
        rcases hv01 with e | e
        · have hf : tr = true := htr.mpr (by rw [e]; decide)
          rw [if_neg (by rw [e]; decide), if_neg (by decide), if_pos hf]
        · have hf : ¬ tr = true := fun q => htr.mp q e
          rw [if_pos e, if_pos rfl, if_neg hf]
    · rw [if_neg h, if_neg (by rw [hn7 h]; decide)]
  rcases over_rel hN ht v with ⟨h1, h2⟩ | ⟨h1, h2⟩
  · refine ⟨_, _, _, _, _, _, _, _, c_perform hs ett ht hans h1 hr1, ?_, fun zn zj zl k x3 => (hbody zn zj zl k x3).trans (m_L176 hs ezt ht h2 hr2 k _ _ _ _ _)⟩
    rw [if_neg (show ¬ (1 : Int32) = 0 by decide), if_neg (show ¬ (1 : Int32) = 0 by decide), if_pos (show (0 : Int32) = 0 from rfl), if_pos (show (0 : Int32) = 0 from rfl)]
    refine ⟨efo, hob, fun n hn => ?_, fun j hj => ⟨(hbits j hj).1, hzu j hj⟩⟩
    unfold vp_updL
    by_cases q : n = t
    · rw [if_pos q, if_pos q]
    · rw [if_neg q, if_neg q]; exact hv n hn
  · refine ⟨_, _, _, _, _, _, _, _, c_perform hs ett ht hans h1 hr1, ?_, fun zn zj zl k x3 => (hbody zn zj zl k x3).trans (m_L176 hs ezt ht h2 hr2 k _ _ _ _ _)⟩
    rw [if_pos (show (0 : Int32) = 0 from rfl), if_pos (show (0 : Int32) = 0 from rfl), if_neg (show ¬ (1 : Int32) = 0 by decide), if_neg (show ¬ (1 : Int32) = 0 by decide)]
    refine ⟨?_, ?_, fun n hn => ?_, fun j hj => ⟨?_, hzu j hj⟩⟩
    · by_cases q : ob = 0
      · rw [if_pos q, if_pos (hob.mp q)]
      · rw [if_neg q, if_neg (fun z => q (hob.mpr z))]; exact efo
    · refine ⟨fun q => absurd q (orb_ne ob (by omega)), fun q => ?_⟩
      by_cases z : zf = -1
      · rw [if_pos z] at q; exact absurd q (nI_ne_m1 (by omega))
      · rw [if_neg z] at q; exact absurd q z
    · unfold vp_updL
      by_cases q : n = t
      · rw [if_pos q, if_pos q]
      · rw [if_neg q, if_neg q]; exact hv n hn
    · rw [orb ob (by omega) (by omega)]
      unfold upd
      by_cases hj2 : j = s
      · subst hj2; simp
      · rw [if_neg hj2, (hbits j hj).1]
        have : ¬ s = j := fun q => hj2 q.symm
        simp [this]
theorem nle_of {i n : Nat} (hi : i < n) (hn : n < 2147483648) : ¬ nI n ≤ nI i := by rw [nI_leI hn (by omega)]; omega
theorem le_of {i n : Nat} (hi : n ≤ i) (hn : i < 2147483648) : nI n ≤ nI i := by rw [nI_leI (by omega) hn]; exact hi
theorem run_loop {nr : Int32} {wd sg : Nat → Int32} {lw hg : Nat → Int64} {zm : Int32} {zw zs : Nat → Int32} (hN : NmR nr wd sg lw hg zm zw zs) {kd tg sa sb bn zk zt za zb pa zl : Nat → Int32} {N len : Nat} {pl zj : Int32} (hP : PaR N len pl pa zj zl kd tg sa sb bn zk zt za zb) (zn : Int32) :
    ∀ (n i : Nat) (ob tb fo : Int32) (rv : Nat → Int64) (zf : Int32) (zv : Nat → Int64) (zo zu : Nat → Int32), i ≤ len → len - i < n → RunR N ob tb fo rv zf zv zo zu →
      ∃ (ob' tb' fo' : Int32) (rv' : Nat → Int64) (zf' : Int32) (zv' : Nat → Int64) (zo' zu' : Nat → Int32), mX3_follow_L57 nr wd sg lw hg pl kd tg sa sb bn pa n ob tb fo rv (nI i) = some (ob', tb', fo', rv') ∧ mX8_runs_L84 zn zm zj zw zs zk zt za zb zl n zf zv zo zu (nI i) = some (zf', zv', zo', zu') ∧ RunR N ob' tb' fo' rv' zf' zv' zo' zu' := by
  obtain ⟨hN24, hl, rfl, rfl, hpath⟩ := hP
  intro n
  induction n with
  | zero => intro i ob tb fo rv zf zv zo zu h1 h2; omega
  | succ n ih =>
    intro i ob tb fo rv zf zv zo zu hi hn hR
    rw [mX3_follow_L57, mX8_runs_L84]
    by_cases he : i = len
    · subst he
      rw [if_pos (le_of (Nat.le_refl _) (by omega)), if_pos (le_of (Nat.le_refl _) (by omega))]
      exact ⟨_, _, _, _, _, _, _, _, rfl, rfl, hR⟩
    · have hlt : i < len := by omega
      obtain ⟨s, hs, epa, ezl, hsp⟩ := hpath i hlt
      obtain ⟨ob', tb', fo', rv', zf', zv', zo', zu', h1, h2, h3⟩ := run_step hN hs hN24 hsp hR
      rw [if_neg (nle_of hlt (by omega)), if_neg (nle_of hlt (by omega)), if_neg (gd_nI (show i < 288 by omega) (by decide)), if_neg (gd_nI (show i < 288 by omega) (by decide)), tn_nI (by omega), epa, ezl, h1, Option.bind_some]
      have h4 := h3 zn (nI len) zl (mX8_runs_L84 zn zm (nI len) zw zs zk zt za zb zl n) (nI i)
      unfold mBody at h4
      rw [h4, nI_1]
      exact ih (i + 1) ob' tb' fo' rv' zf' zv' zo' zu' (by omega) (by omega) h2
theorem upL_0 (f : Nat → Int64) (v : Int64) : ∀ (i : Nat), vp_updL (flL i v f) i v = flL (i + 1) v f := fun i => flL_s i v f
/-- the model sets its six values to 0 -/
theorem m_L2 (zn zm zj : Int32) (zw zs zk zt za zb zl : Nat → Int32) (zf : Int32) (zv : Nat → Int64) (zo zu : Nat → Int32) (x1 x2 : Int32) : ∀ (n i : Nat), i ≤ 6 → 6 - i < n → mX8_runs_L2 zn zm zj zw zs zk zt za zb zl n zf (flL i 0 zv) zo zu x1 x2 (nI i) = mX8_runs_L23 zn zm zj zw zs zk zt za zb zl FU zf (flL 6 0 zv) zo zu x1 x2 0 := by
  intro n
  induction n with
  | zero => intro i h1 h2; omega
  | succ n ih =>
    intro i hi hn
    rw [mX8_runs_L2]
    by_cases he : i = 6
    · subst he
      rw [if_pos (show (6 : Int32) ≤ nI 6 by decide)]
    · have hlt : i < 6 := by omega
      rw [if_neg (show ¬ (6 : Int32) ≤ nI i from nle_of (n := 6) hlt (by decide)), if_neg (gd_nI hlt (by decide)), tn_nI (by omega), flL_s, nI_1]
      exact ih (i + 1) (by omega) (by omega)
/-- .. and its marks to false -/
theorem m_L23 (N : Nat) (hN : N ≤ 24) (zm zj : Int32) (zw zs zk zt za zb zl : Nat → Int32) (zf : Int32) (zv : Nat → Int64) (zo zu : Nat → Int32) (x1 x2 : Int32) : ∀ (n i : Nat), i ≤ N → N - i < n → mX8_runs_L23 (nI N) zm zj zw zs zk zt za zb zl n zf zv (flI i 0 zo) (flI i 0 zu) x1 x2 (nI i) = (mX8_put zm zw zs 0 x1.toInt64).bind (fun u4 => (mX8_put zm zw zs 1 x2.toInt64).bind (fun u5 => mX8_runs_L84 (nI N) zm zj zw zs zk zt za zb zl FU (-1) (vp_updL (vp_updL zv 0 u4) 1 u5) (flI N 0 zo) (flI N 0 zu) 0)) := by
  intro n
  induction n with
  | zero => intro i h1 h2; omega
  | succ n ih =>
    intro i hi hn
    rw [mX8_runs_L23]
    by_cases he : i = N
    · subst he
      rw [if_pos (le_of (Nat.le_refl _) (by omega))]
      rfl
    · have hlt : i < N := by omega
      rw [if_neg (nle_of hlt (by omega)), if_neg (gd_nI (show i < 24 by omega) (by decide)), tn_nI (by omega), nar0, flI_s, flI_s, nI_1]
      exact ih (i + 1) (by omega) (by omega)
/-- a whole RUN -/
theorem run_rel {nr : Int32} {wd sg : Nat → Int32} {lw hg : Nat → Int64} {zm : Int32} {zw zs : Nat → Int32} (hN : NmR nr wd sg lw hg zm zw zs) {kd tg sa sb bn zk zt za zb pa zl : Nat → Int32} {N len : Nat} {pl zj : Int32} (hP : PaR N len pl pa zj zl kd tg sa sb bn zk zt za zb) (ob tb fo : Int32) (rv : Nat → Int64) (zf : Int32) (zv : Nat → Int64) (zo zu : Nat → Int32) (x y : Int32) :
    ∃ (ob' tb' fo' : Int32) (rv' : Nat → Int64) (zf' : Int32) (zv' : Nat → Int64) (zo' zu' : Nat → Int32), mX3_follow nr wd sg lw hg pl kd tg sa sb bn pa ob tb fo rv x y = some (ob', tb', fo', rv') ∧ mX8_runs (nI N) zm zj zf zw zs zk zt za zb zl zv zo zu x y = some (zf', zv', zo', zu') ∧ RunR N ob' tb' fo' rv' zf' zv' zo' zu' := by
  obtain ⟨r0, a0, b0⟩ := put_rel hN (show 0 < 6 by decide) x.toInt64
  obtain ⟨r1, a1, b1⟩ := put_rel hN (show 1 < 6 by decide) y.toInt64
  have hP' := hP
  obtain ⟨hN24, hl, -, -, -⟩ := hP'
  have hR : RunR N 0 0 (-1) (vp_updL (vp_updL (flL 6 0 rv) 0 r0) 1 r1) (-1) (vp_updL (vp_updL (flL 6 0 zv) 0 r0) 1 r1) (flI N 0 zo) (flI N 0 zu) := by
    refine ⟨rfl, ⟨fun _ => rfl, fun _ => rfl⟩, fun n hn => ?_, fun s hs => ?_⟩
    · unfold vp_updL flL
      by_cases q1 : n = 1
      · rw [if_pos q1, if_pos q1]
      · rw [if_neg q1, if_neg q1]
        by_cases q0 : n = 0
        · rw [if_pos q0, if_pos q0]
        · rw [if_neg q0, if_neg q0, if_pos hn, if_pos hn]
    · unfold flI
      rw [if_pos hs, if_pos hs, b_0]
      exact ⟨rfl, rfl⟩
  obtain ⟨ob', tb', fo', rv', zf', zv', zo', zu', h1, h2, h3⟩ := run_loop hN hP (nI N) FU 0 0 0 (-1) _ (-1) _ _ _ (Nat.zero_le _) (by unfold FU; omega) hR
  refine ⟨ob', tb', fo', rv', zf', zv', zo', zu', ?_, ?_, h3⟩
  · unfold mX3_follow
    have a0' : mX1_fitted nr wd lw hg (0 : Int32) x.toInt64 = some r0 := a0
    have a1' : mX1_fitted nr wd lw hg (1 : Int32) y.toInt64 = some r1 := a1
    rw [a0', Option.bind_some, a1', Option.bind_some]
    exact h1
  · unfold mX8_runs
    have e2 := m_L2 (nI N) zm zj zw zs zk zt za zb zl zf zv zo zu x y FU 0 (by omega) (by unfold FU; omega)
    rw [flL_0] at e2
    have e3 := m_L23 N hN24 zm zj zw zs zk zt za zb zl zf (flL 6 0 zv) zo zu x y FU 0 (Nat.zero_le _) (by unfold FU; omega)
    rw [flI_0, flI_0] at e3
    have b0' : mX8_put zm zw zs (0 : Int32) x.toInt64 = some r0 := b0
    have b1' : mX8_put zm zw zs (1 : Int32) y.toInt64 = some r1 := b1
    rw [b0', Option.bind_some, b1', Option.bind_some] at e3
    exact (e2.trans e3).trans h2
