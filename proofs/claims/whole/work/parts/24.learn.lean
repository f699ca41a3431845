/-! ===== the two loops over all RUNS ===== -/
abbrev KC52 : Type := Int32 → Int32 → Int32 → (Nat → Int64) → Int32 → Int32 → (Nat → Int32) → (Nat → Int32) → (Nat → Int32) → Int32 → Option (Int32 × Int32 × Int32 × (Nat → Int64) × Int32 × Int32 × (Nat → Int32) × (Nat → Int32) × (Nat → Int32))
theorem zovM_0 (zo zov : Nat → Int32) : zovM zo zov 0 = zov := by funext s; unfold zovM; rw [if_neg (by omega)]
theorem zshM_0 (zo zsh : Nat → Int32) (rn : Int32) : zshM zo zsh rn 0 = zsh := by funext s; unfold zshM; rw [if_neg (by omega)]
theorem m_L70s {N : Nat} (hN24 : N ≤ 24) {zm zj zf zr zf' : Int32} {zw zs zfr zto zk zt za zb zl : Nat → Int32} {zv zv' : Nat → Int64} {zo zu zo' zu' zov ztu zsh : Nat → Int32} {x y : Int32} (h : mX8_runs (nI N) zm zj zf zw zs zk zt za zb zl zv zo zu x y = some (zf', zv', zo', zu')) (k53 : K53) (n : Nat) (hy : ¬ zto 1 < y) :
    mX8_all_L70 (nI N) zm zw zs zfr zto zk zt za zb k53 (n + 1) zj zf zr zl zv zo zu zov ztu zsh x y = mX8_all_L70 (nI N) zm zw zs zfr zto zk zt za zb k53 n zj zf' (if zf' = -1 then zr else zr + 1) zl zv' zo' zu' (zovM zo' zov N) (zovM zu' ztu N) (zshM zo' zsh (32 * (x - zfr 0) + y - zfr 1) N) x (y + 1) := by
  rw [mX8_all_L70, tn1, if_neg hy, h, Option.bind_some]
  have e := fun zr' : Int32 => m_L106 hN24 zm zw zs zfr zto zk zt za zb k53 (mX8_all_L70 (nI N) zm zw zs zfr zto zk zt za zb k53 n) zj zf' zr' zl zv' zo' zu' zov ztu zsh x y FU 0 (Nat.zero_le _) (by unfold FU; omega)
  simp only [zovM_0, zshM_0] at e
  by_cases q : zf' = -1
  · rw [if_pos q, if_pos q]; exact e zr
  · rw [if_neg q, if_neg q]; exact e (zr + 1)
theorem c_L75s {nr : Int32} {wd sg : Nat → Int32} {lw hg : Nat → Int64} {fr to kd tg sa sb bn pa : Nat → Int32} {pl ob tb fo ob' tb' fo' ro tk : Int32} {rv rv' : Nat → Int64} {ov sh tu : Nat → Int32} {x y : Int32} (h : mX3_follow nr wd sg lw hg pl kd tg sa sb bn pa ob tb fo rv x y = some (ob', tb', fo', rv')) (k52 : KC52) (n : Nat) (hy : ¬ to 1 < y) :
    mX5_learn_L75 nr wd sg lw hg fr to pl kd tg sa sb bn pa k52 (n + 1) ob tb fo rv ro tk ov sh tu x y = mX5_learn_L75 nr wd sg lw hg fr to pl kd tg sa sb bn pa k52 n ob' tb' fo' rv' (if ob' = 0 then ro else ro + 1) tk (ovN ob' ov 24) (shN ob' (32 * (x - fr 0) + y - fr 1) ov sh 24) (tuN tb' tu 24) x (y + 1) := by
  rw [mX5_learn_L75, tn1, tn0, if_neg hy, h, Option.bind_some, c_note, Option.bind_some]
theorem y_loop {nr : Int32} {wd sg : Nat → Int32} {lw hg : Nat → Int64} {zm : Int32} {zw zs : Nat → Int32} (hN : NmR nr wd sg lw hg zm zw zs) {kd tg sa sb bn zk zt za zb pa zl : Nat → Int32} {N len : Nat} {pl zj : Int32} (hP : PaR N len pl pa zj zl kd tg sa sb bn zk zt za zb) {d0 d1 : Nat} {fr to zfr zto : Nat → Int32} (hI : InR d0 d1 fr to zfr zto) (tk : Int32) (kc : KC52) (km : K53) {x : Int32} {i : Nat} (hx : x = fr 0 + nI i) (hi : i ≤ 31) :
    ∀ (n j T : Nat) (ob tb fo : Int32) (rv : Nat → Int64) (ro : Int32) (ov sh tu : Nat → Int32) (zf zr : Int32) (zv : Nat → Int64) (zo zu zov ztu zsh : Nat → Int32), j ≤ d1 + 1 → d1 + 1 - j < n → T + (d1 + 1 - j) ≤ 1100 → TyR N T ro ov sh tu zr zov zsh ztu →
      ∃ (ob' tb' fo' : Int32) (rv' : Nat → Int64) (ro' : Int32) (ov' sh' tu' : Nat → Int32) (zf' zr' : Int32) (zv' : Nat → Int64) (zo' zu' zov' ztu' zsh' : Nat → Int32), TyR N (T + (d1 + 1 - j)) ro' ov' sh' tu' zr' zov' zsh' ztu' ∧
        mX5_learn_L75 nr wd sg lw hg fr to pl kd tg sa sb bn pa kc n ob tb fo rv ro tk ov sh tu x (fr 1 + nI j) = kc ob' tb' fo' rv' ro' tk ov' sh' tu' (x + 1) ∧
        mX8_all_L70 (nI N) zm zw zs zfr zto zk zt za zb km n zj zf zr zl zv zo zu zov ztu zsh x (fr 1 + nI j) = km zj zf' zr' zl zv' zo' zu' zov' ztu' zsh' (x + 1) := by
  obtain ⟨h31, h31', f0, f1, t0, t1, ⟨a0, b0, c0⟩, ⟨a1, b1, c1⟩⟩ := hI
  intro n
  induction n with
  | zero => intro j T ob tb fo rv ro ov sh tu zf zr zv zo zu zov ztu zsh h1 h2; omega
  | succ n ih =>
    intro j T ob tb fo rv ro ov sh tu zf zr zv zo zu zov ztu zsh hj hn hT hR
    have hyi : (fr 1 + nI j).toInt = (fr 1).toInt + j := add_i (by rw [f1]; omega) (by rw [f1]; omega) (by omega)
    by_cases he : j = d1 + 1
    · have hlt : zto 1 < fr 1 + nI j := by rw [Int32.lt_iff_toInt_lt, hyi, f1]; omega
      refine ⟨ob, tb, fo, rv, ro, ov, sh, tu, zf, zr, zv, zo, zu, zov, ztu, zsh, ?_, ?_, ?_⟩
      · rw [he, Nat.sub_self]; exact hR
      · rw [mX5_learn_L75, tn1, if_pos (by rw [t1]; exact hlt)]
      · rw [mX8_all_L70, tn1, if_pos hlt]
    · have hnlt : ¬ zto 1 < fr 1 + nI j := by rw [Int32.lt_iff_toInt_lt, hyi, f1]; omega
      have hN24 : N ≤ 24 := hP.1
      obtain ⟨ob', tb', fo', rv', zf', zv', zo', zu', h1, h2, h3⟩ := run_rel hN hP ob tb fo rv zf zv zo zu x (fr 1 + nI j)
      have h4 := note_rel hN24 (by omega) h3 hR (rn_ne hx (rfl : fr 1 + nI j = fr 1 + nI j) hi (by omega))
      have e1 := c_L75s (fr := fr) (to := to) (ro := ro) (tk := tk) (ov := ov) (sh := sh) (tu := tu) h1 kc n (by rw [t1]; exact hnlt)
      have e2 := m_L70s (zfr := zfr) (zto := zto) (zr := zr) (zov := zov) (ztu := ztu) (zsh := zsh) hN24 h2 km n hnlt
      rw [← f0, ← f1] at e2
      obtain ⟨ob2, tb2, fo2, rv2, ro2, ov2, sh2, tu2, zf2, zr2, zv2, zo2, zu2, zov2, ztu2, zsh2, r1, r2, r3⟩ := ih (j + 1) (T + 1) ob' tb' fo' rv' _ _ _ _ zf' _ zv' zo' zu' _ _ _ (by omega) (by omega) (by omega) h4
      refine ⟨ob2, tb2, fo2, rv2, ro2, ov2, sh2, tu2, zf2, zr2, zv2, zo2, zu2, zov2, ztu2, zsh2, ?_, ?_, ?_⟩
      · rw [show T + (d1 + 1 - j) = T + 1 + (d1 + 1 - (j + 1)) by omega]; exact r1
      · rw [e1, add_1]; exact r2
      · rw [e2, add_1]; exact r3
theorem x_loop {nr : Int32} {wd sg : Nat → Int32} {lw hg : Nat → Int64} {zm : Int32} {zw zs : Nat → Int32} (hN : NmR nr wd sg lw hg zm zw zs) {kd tg sa sb bn zk zt za zb pa zl : Nat → Int32} {N len : Nat} {pl zj : Int32} (hP : PaR N len pl pa zj zl kd tg sa sb bn zk zt za zb) {d0 d1 : Nat} {fr to zfr zto : Nat → Int32} (hI : InR d0 d1 fr to zfr zto) (tk : Int32) :
    ∀ (n i : Nat) (ob tb fo : Int32) (rv : Nat → Int64) (ro : Int32) (ov sh tu : Nat → Int32) (zf zr : Int32) (zv : Nat → Int64) (zo zu zov ztu zsh : Nat → Int32), i ≤ d0 + 1 → d0 + 1 - i < n → TyR N (i * (d1 + 1)) ro ov sh tu zr zov zsh ztu →
      ∃ (ob' tb' fo' : Int32) (rv' : Nat → Int64) (ro' : Int32) (ov' sh' tu' : Nat → Int32) (zf' zr' : Int32) (zv' : Nat → Int64) (zo' zu' zov' ztu' zsh' : Nat → Int32), TyR N ((d0 + 1) * (d1 + 1)) ro' ov' sh' tu' zr' zov' zsh' ztu' ∧
        mX5_learn_L52 nr wd sg lw hg fr to pl kd tg sa sb bn pa n ob tb fo rv ro tk ov sh tu (fr 0 + nI i) = some (ob', tb', fo', rv', ro', tk, ov', sh', tu') ∧
        mX8_all_L53 (nI N) zm zw zs zfr zto zk zt za zb n zj zf zr zl zv zo zu zov ztu zsh (fr 0 + nI i) = some (zj, zf', zr', zl, zv', zo', zu', zov', ztu', zsh') := by
  have hI' := hI
  obtain ⟨h31, h31', f0, f1, t0, t1, ⟨a0, b0, c0⟩, ⟨a1, b1, c1⟩⟩ := hI'
  intro n
  induction n with
  | zero => intro i ob tb fo rv ro ov sh tu zf zr zv zo zu zov ztu zsh h1 h2; omega
  | succ n ih =>
    intro i ob tb fo rv ro ov sh tu zf zr zv zo zu zov ztu zsh hi hn hR
    have hxi : (fr 0 + nI i).toInt = (fr 0).toInt + i := add_i (by rw [f0]; omega) (by rw [f0]; omega) (by omega)
    by_cases he : i = d0 + 1
    · have hlt : zto 0 < fr 0 + nI i := by rw [Int32.lt_iff_toInt_lt, hxi, f0]; omega
      refine ⟨ob, tb, fo, rv, ro, ov, sh, tu, zf, zr, zv, zo, zu, zov, ztu, zsh, ?_, ?_, ?_⟩
      · rw [← he]; exact hR
      · rw [mX5_learn_L52, tn0, if_pos (by rw [t0]; exact hlt)]
      · rw [mX8_all_L53, tn0, if_pos hlt]
    · have hnlt : ¬ zto 0 < fr 0 + nI i := by rw [Int32.lt_iff_toInt_lt, hxi, f0]; omega
      have hle : i * (d1 + 1) + (d1 + 1) ≤ 1024 := by
        have h1 : i * (d1 + 1) ≤ 31 * 32 := Nat.mul_le_mul (by omega) (by omega)
        omega
      obtain ⟨ob', tb', fo', rv', ro', ov', sh', tu', zf', zr', zv', zo', zu', zov', ztu', zsh', r1, r2, r3⟩ := y_loop hN hP hI tk (mX5_learn_L52 nr wd sg lw hg fr to pl kd tg sa sb bn pa n) (mX8_all_L53 (nI N) zm zw zs zfr zto zk zt za zb n) (rfl : fr 0 + nI i = fr 0 + nI i) (by omega) FU 0 (i * (d1 + 1)) ob tb fo rv ro ov sh tu zf zr zv zo zu zov ztu zsh (by omega) (by unfold FU; omega) (by omega) hR
      rw [add_0] at r2 r3
      obtain ⟨ob2, tb2, fo2, rv2, ro2, ov2, sh2, tu2, zf2, zr2, zv2, zo2, zu2, zov2, ztu2, zsh2, s1, s2, s3⟩ := ih (i + 1) ob' tb' fo' rv' ro' ov' sh' tu' zf' zr' zv' zo' zu' zov' ztu' zsh' (by omega) (by omega) (by rw [Nat.succ_mul]; rw [Nat.sub_zero] at r1; exact r1)
      refine ⟨ob2, tb2, fo2, rv2, ro2, ov2, sh2, tu2, zf2, zr2, zv2, zo2, zu2, zov2, ztu2, zsh2, s1, ?_, ?_⟩
      · rw [mX5_learn_L52, tn0, tn1, if_neg (by rw [t0]; exact hnlt), r2, add_1]; exact s2
      · rw [mX8_all_L53, tn0, tn1, if_neg hnlt, ← f1, r3, add_1]; exact s3
/-- the model clears what it tells -/
theorem m_L11 {N : Nat} (hN : N ≤ 24) (zm : Int32) (zw zs zfr zto zk zt za zb : Nat → Int32) (zj zf zr : Int32) (zl : Nat → Int32) (zv : Nat → Int64) (zo zu zov ztu zsh : Nat → Int32) : ∀ (n i : Nat), i ≤ N → N - i < n → mX8_all_L11 (nI N) zm zw zs zfr zto zk zt za zb n zj zf zr zl zv zo zu (flI i 0 zov) (flI i 0 ztu) (flI i (-1) zsh) (nI i) = mX8_all_L53 (nI N) zm zw zs zfr zto zk zt za zb FU zj zf zr zl zv zo zu (flI N 0 zov) (flI N 0 ztu) (flI N (-1) zsh) (zfr 0) := by
  intro n
  induction n with
  | zero => intro i h1 h2; omega
  | succ n ih =>
    intro i hi hn
    rw [mX8_all_L11]
    by_cases he : i = N
    · subst he
      rw [if_pos (le_of (Nat.le_refl _) (by omega)), tn0]
    · have hlt : i < N := by omega
      rw [if_neg (nle_of hlt (by omega)), if_neg (gd_nI (show i < 24 by omega) (by decide)), tn_nI (by omega), flI_s, flI_s, flI_s, nI_1]
      exact ih (i + 1) (by omega) (by omega)
/-- the line that the model lays is the class's path -/
def PathI (N : Nat) (pl : Int32) (pa kd tg sa sb bn zk zt za zb : Nat → Int32) : Prop := ∀ (zj : Int32) (zl : Nat → Int32), ∃ (zj' : Int32) (zl' : Nat → Int32) (len : Nat), mX8_lays (nI N) zj zk zb zl = some (zj', zl') ∧ PaR N len pl pa zj' zl' kd tg sa sb bn zk zt za zb
/-- what the class has told is what the model tells whenever it is asked -/
def TaOK (N T : Nat) (ro : Int32) (ov sh tu : Nat → Int32) (zm : Int32) (zw zs zfr zto zk zt za zb : Nat → Int32) : Prop := ∀ (zj zf zr : Int32) (zl : Nat → Int32) (zv : Nat → Int64) (zo zu zov ztu zsh : Nat → Int32), ∃ (zj' zf' zr' : Int32) (zl' : Nat → Int32) (zv' : Nat → Int64) (zo' zu' zov' ztu' zsh' : Nat → Int32), mX8_all (nI N) zm zj zf zr zw zs zfr zto zk zt za zb zl zv zo zu zov ztu zsh = some (zj', zf', zr', zl', zv', zo', zu', zov', ztu', zsh') ∧ TyR N T ro ov sh tu zr' zov' zsh' ztu'
theorem tally_new {nr : Int32} {wd sg : Nat → Int32} {lw hg : Nat → Int64} {zm : Int32} {zw zs : Nat → Int32} (hN : NmR nr wd sg lw hg zm zw zs) {kd tg sa sb bn zk zt za zb pa : Nat → Int32} {N : Nat} {pl : Int32} (hN24 : N ≤ 24) (hP : PathI N pl pa kd tg sa sb bn zk zt za zb) {d0 d1 : Nat} {fr to zfr zto : Nat → Int32} (hI : InR d0 d1 fr to zfr zto) (ob tb fo : Int32) (rv : Nat → Int64) (ro : Int32) (ov sh tu : Nat → Int32) :
    ∃ (ob' tb' fo' : Int32) (rv' : Nat → Int64) (ro' : Int32) (ov' sh' tu' : Nat → Int32), mX5_learn nr wd sg lw hg fr to pl kd tg sa sb bn pa ob tb fo rv ro 0 ov sh tu = some (ob', tb', fo', rv', ro', 1, ov', sh', tu') ∧ TaOK N ((d0 + 1) * (d1 + 1)) ro' ov' sh' tu' zm zw zs zfr zto zk zt za zb := by
  have key : ∀ (zj zf zr : Int32) (zl : Nat → Int32) (zv : Nat → Int64) (zo zu zov ztu zsh : Nat → Int32), ∃ (ob' tb' fo' : Int32) (rv' : Nat → Int64) (ro' : Int32) (ov' sh' tu' : Nat → Int32), mX5_learn nr wd sg lw hg fr to pl kd tg sa sb bn pa ob tb fo rv ro 0 ov sh tu = some (ob', tb', fo', rv', ro', 1, ov', sh', tu') ∧ ∃ (zj' zf' zr' : Int32) (zl' : Nat → Int32) (zv' : Nat → Int64) (zo' zu' zov' ztu' zsh' : Nat → Int32), mX8_all (nI N) zm zj zf zr zw zs zfr zto zk zt za zb zl zv zo zu zov ztu zsh = some (zj', zf', zr', zl', zv', zo', zu', zov', ztu', zsh') ∧ TyR N ((d0 + 1) * (d1 + 1)) ro' ov' sh' tu' zr' zov' zsh' ztu' := by
    intro zj zf zr zl zv zo zu zov ztu zsh
    obtain ⟨zj1, zl1, len, e1, hP1⟩ := hP zj zl
    have hT0 : TyR N (0 * (d1 + 1)) 0 (flI 24 0 ov) (flI 24 (-1) sh) (flI 24 0 tu) 0 (flI N 0 zov) (flI N (-1) zsh) (flI N 0 ztu) := by
      refine ⟨rfl, fun s hs => ?_⟩
      unfold flI
      rw [if_pos (show s < 24 by omega), if_pos (show s < 24 by omega), if_pos (show s < 24 by omega), if_pos hs, if_pos hs, if_pos hs]
      exact ⟨rfl, rfl, rfl, ⟨fun _ => rfl, fun _ => rfl⟩, 0, Nat.zero_le _, rfl⟩
    obtain ⟨ob', tb', fo', rv', ro', ov', sh', tu', zf', zr', zv', zo', zu', zov', ztu', zsh', r1, r2, r3⟩ := x_loop hN hP1 hI 1 FU 0 ob tb fo rv 0 _ _ _ zf 0 zv zo zu _ _ _ (by omega) (by unfold FU; have := hI.1; omega) hT0
    rw [add_0] at r2 r3
    refine ⟨ob', tb', fo', rv', ro', ov', sh', tu', ?_, zj1, zf', zr', zl1, zv', zo', zu', zov', ztu', zsh', ?_, r1⟩
    · unfold mX5_learn
      rw [if_pos rfl, tn0]
      exact r2
    · unfold mX8_all
      rw [e1, Option.bind_some]
      have e2 := m_L11 hN24 zm zw zs zfr zto zk zt za zb zj1 zf 0 zl1 zv zo zu zov ztu zsh FU 0 (Nat.zero_le _) (by unfold FU; omega)
      rw [flI_0, flI_0, flI_0] at e2
      have f0 : fr 0 = zfr 0 := hI.2.2.1
      rw [f0] at r3
      exact e2.trans r3
  obtain ⟨ob', tb', fo', rv', ro', ov', sh', tu', h1, -⟩ := key 0 0 0 (fun _ => 0) (fun _ => 0) (fun _ => 0) (fun _ => 0) (fun _ => 0) (fun _ => 0) (fun _ => 0)
  refine ⟨ob', tb', fo', rv', ro', ov', sh', tu', h1, ?_⟩
  intro zj zf zr zl zv zo zu zov ztu zsh
  obtain ⟨ob2, tb2, fo2, rv2, ro2, ov2, sh2, tu2, h2, h3⟩ := key zj zf zr zl zv zo zu zov ztu zsh
  rw [h1] at h2
  cases h2
  exact h3
