/-! ===== all RUNS: class and model in step ===== -/
/-- the inputs of both sides: fr, to; d0, d1 how far they go -/
def InR (d0 d1 : Nat) (fr to zfr zto : Nat → Int32) : Prop := d0 ≤ 31 ∧ d1 ≤ 31 ∧ fr 0 = zfr 0 ∧ fr 1 = zfr 1 ∧ to 0 = zto 0 ∧ to 1 = zto 1 ∧ (-100000 ≤ (zfr 0).toInt ∧ (zto 0).toInt ≤ 100000 ∧ (zto 0).toInt = (zfr 0).toInt + d0) ∧ (-100000 ≤ (zfr 1).toInt ∧ (zto 1).toInt ≤ 100000 ∧ (zto 1).toInt = (zfr 1).toInt + d1)
theorem add_i {a : Int32} {j : Nat} (h1 : -1000000 ≤ a.toInt) (h2 : a.toInt ≤ 1000000) (hj : j ≤ 1000000) : (a + nI j).toInt = a.toInt + j := by
  have h := nI_toInt (n := j) (by omega)
  rw [Kit.i32_add (by rw [h]; omega) (by rw [h]; omega), h]
theorem add_1 (a : Int32) (j : Nat) : a + nI j + 1 = a + nI (j + 1) := by rw [Int32.add_assoc, nI_1]
theorem add_0 (a : Int32) : a + nI 0 = a := by rw [nI_0, Int32.add_zero]
/-! the class's notes -/
def ovN (b : Int32) (ov : Nat → Int32) (i : Nat) : Nat → Int32 := fun s => if s < i ∧ bt b s = true then ov s + 1 else ov s
def shN (b rn : Int32) (ov sh : Nat → Int32) (i : Nat) : Nat → Int32 := fun s => if s < i ∧ bt b s = true ∧ ov s = 0 then rn else sh s
def tuN (b : Int32) (tu : Nat → Int32) (i : Nat) : Nat → Int32 := fun s => if s < i ∧ bt b s = true then tu s + 1 else tu s
theorem c_noteOver (b rn : Int32) (ov sh : Nat → Int32) : mX5_noteOver ov sh b rn = some (ovN b ov 24, shN b rn ov sh 24) := by
  have key : ∀ (n i : Nat), i ≤ 24 → 24 - i < n → mX5_noteOver_L2 n (ovN b ov i) (shN b rn ov sh i) b rn (nI i) = some (ovN b ov 24, shN b rn ov sh 24) := by
    intro n
    induction n with
    | zero => intro i h1 h2; omega
    | succ n ih =>
      intro i hi hn
      rw [mX5_noteOver_L2]
      by_cases he : i = 24
      · subst he
        rw [if_pos (show (24 : Int32) ≤ nI 24 by decide)]
      · have hlt : i < 24 := by omega
        rw [if_neg (show ¬ (24 : Int32) ≤ nI i from nle_of (n := 24) hlt (by decide)), shb b (show i < 32 by omega), tn_nI (by omega), nI_1]
        have hv : ovN b ov i i = ov i := by unfold ovN; rw [if_neg (by omega)]
        by_cases hb : bt b i = true
        · have e1 : upd (ovN b ov i) i (ov i + 1) = ovN b ov (i + 1) := by
            funext s
            unfold upd ovN
            by_cases q : s = i
            · subst q; rw [if_pos rfl, if_pos ⟨by omega, hb⟩]
            · rw [if_neg q]
              by_cases q2 : s < i ∧ bt b s = true
              · rw [if_pos q2, if_pos ⟨by omega, q2.2⟩]
              · rw [if_neg q2, if_neg (fun z => q2 ⟨by omega, z.2⟩)]
          rw [if_pos hb, if_pos rfl, if_neg (by have := gd_nI hlt (by decide); rw [tn_nI (by omega)] at this; exact this), hv, e1]
          by_cases h0 : ov i = 0
          · have e2 : upd (shN b rn ov sh i) i rn = shN b rn ov sh (i + 1) := by
              funext s
              unfold upd shN
              by_cases q : s = i
              · subst q; rw [if_pos rfl, if_pos ⟨by omega, hb, h0⟩]
              · rw [if_neg q]
                by_cases q2 : s < i ∧ bt b s = true ∧ ov s = 0
                · rw [if_pos q2, if_pos ⟨by omega, q2.2⟩]
                · rw [if_neg q2, if_neg (fun z => q2 ⟨by omega, z.2⟩)]
            rw [if_pos h0, e2]
            exact ih (i + 1) (by omega) (by omega)
          · have e2 : shN b rn ov sh i = shN b rn ov sh (i + 1) := by
              funext s
              unfold shN
              by_cases q : s = i
              · subst q; rw [if_neg (by omega), if_neg (fun z => h0 z.2.2)]
              · by_cases q2 : s < i ∧ bt b s = true ∧ ov s = 0
                · rw [if_pos q2, if_pos ⟨by omega, q2.2⟩]
                · rw [if_neg q2, if_neg (fun z => q2 ⟨by omega, z.2⟩)]
            rw [if_neg h0, e2]
            exact ih (i + 1) (by omega) (by omega)
        · have e1 : ovN b ov i = ovN b ov (i + 1) := by
            funext s
            unfold ovN
            by_cases q : s = i
            · subst q; rw [if_neg (by omega), if_neg (fun z => hb z.2)]
            · by_cases q2 : s < i ∧ bt b s = true
              · rw [if_pos q2, if_pos ⟨by omega, q2.2⟩]
              · rw [if_neg q2, if_neg (fun z => q2 ⟨by omega, z.2⟩)]
          have e2 : shN b rn ov sh i = shN b rn ov sh (i + 1) := by
            funext s
            unfold shN
            by_cases q : s = i
            · subst q; rw [if_neg (by omega), if_neg (fun z => hb z.2.1)]
            · by_cases q2 : s < i ∧ bt b s = true ∧ ov s = 0
              · rw [if_pos q2, if_pos ⟨by omega, q2.2⟩]
              · rw [if_neg q2, if_neg (fun z => q2 ⟨by omega, z.2⟩)]
          rw [if_neg hb, if_neg (by decide), e1, e2]
          exact ih (i + 1) (by omega) (by omega)
  have h := key FU 0 (by omega) (by unfold FU; omega)
  have e1 : ovN b ov 0 = ov := by funext s; unfold ovN; rw [if_neg (by omega)]
  have e2 : shN b rn ov sh 0 = sh := by funext s; unfold shN; rw [if_neg (by omega)]
  rw [e1, e2] at h
  exact h
theorem c_noteTurned (b : Int32) (tu : Nat → Int32) : mX5_noteTurned tu b = some (tuN b tu 24) := by
  have key : ∀ (n i : Nat), i ≤ 24 → 24 - i < n → mX5_noteTurned_L2 n (tuN b tu i) b (nI i) = some (tuN b tu 24) := by
    intro n
    induction n with
    | zero => intro i h1 h2; omega
    | succ n ih =>
      intro i hi hn
      rw [mX5_noteTurned_L2]
      by_cases he : i = 24
      · subst he
        rw [if_pos (show (24 : Int32) ≤ nI 24 by decide)]
      · have hlt : i < 24 := by omega
        rw [if_neg (show ¬ (24 : Int32) ≤ nI i from nle_of (n := 24) hlt (by decide)), if_neg (gd_nI hlt (by decide)), shb b (show i < 32 by omega), tn_nI (by omega), nI_1]
        have hv : tuN b tu i i = tu i := by unfold tuN; rw [if_neg (by omega)]
        have e1 : upd (tuN b tu i) i (tu i + if bt b i = true then 1 else 0) = tuN b tu (i + 1) := by
          funext s
          unfold upd tuN
          by_cases q : s = i
          · subst q
            rw [if_pos rfl]
            by_cases hb : bt b s = true
            · rw [if_pos hb, if_pos ⟨by omega, hb⟩]
            · rw [if_neg hb, if_neg (fun z => hb z.2), Int32.add_zero]
          · rw [if_neg q]
            by_cases q2 : s < i ∧ bt b s = true
            · rw [if_pos q2, if_pos ⟨by omega, q2.2⟩]
            · rw [if_neg q2, if_neg (fun z => q2 ⟨by omega, z.2⟩)]
        rw [hv, e1]
        exact ih (i + 1) (by omega) (by omega)
  have h := key FU 0 (by omega) (by unfold FU; omega)
  have e1 : tuN b tu 0 = tu := by funext s; unfold tuN; rw [if_neg (by omega)]
  rw [e1] at h
  exact h
theorem c_note (ob tb ro : Int32) (ov sh tu : Nat → Int32) (rn : Int32) : mX5_note ob tb ro ov sh tu rn = some (if ob = 0 then ro else ro + 1, ovN ob ov 24, shN ob rn ov sh 24, tuN tb tu 24) := by
  have z1 : ∀ f, ovN 0 f 24 = f := fun f => by funext s; unfold ovN; rw [b_0]; simp
  have z2 : ∀ f g, shN 0 rn f g 24 = g := fun f g => by funext s; unfold shN; rw [b_0]; simp
  have z3 : ∀ f, tuN 0 f 24 = f := fun f => by funext s; unfold tuN; rw [b_0]; simp
  unfold mX5_note
  by_cases h1 : ob = 0
  · rw [if_pos h1, if_pos h1, h1, z1, z2]
    by_cases h2 : tb = 0
    · rw [if_pos h2, h2, z3]
    · rw [if_neg h2, c_noteTurned]; rfl
  · rw [if_neg h1, if_neg h1, c_noteOver, Option.bind_some]
    by_cases h2 : tb = 0
    · rw [if_pos h2, h2, z3]
    · rw [if_neg h2, c_noteTurned]; rfl
/-! the model's notes -/
def zovM (zo zov : Nat → Int32) (i : Nat) : Nat → Int32 := fun s => if s < i ∧ ¬ zo s = 0 then zov s + 1 else zov s
def zshM (zo zsh : Nat → Int32) (rn : Int32) (i : Nat) : Nat → Int32 := fun s => if s < i ∧ ¬ zo s = 0 ∧ zsh s = -1 then rn else zsh s
abbrev K70 : Type := Int32 → Int32 → Int32 → (Nat → Int32) → (Nat → Int64) → (Nat → Int32) → (Nat → Int32) → (Nat → Int32) → (Nat → Int32) → (Nat → Int32) → Int32 → Int32 → Option (Int32 × Int32 × Int32 × (Nat → Int32) × (Nat → Int64) × (Nat → Int32) × (Nat → Int32) × (Nat → Int32) × (Nat → Int32) × (Nat → Int32))
abbrev K53 : Type := Int32 → Int32 → Int32 → (Nat → Int32) → (Nat → Int64) → (Nat → Int32) → (Nat → Int32) → (Nat → Int32) → (Nat → Int32) → (Nat → Int32) → Int32 → Option (Int32 × Int32 × Int32 × (Nat → Int32) × (Nat → Int64) × (Nat → Int32) × (Nat → Int32) × (Nat → Int32) × (Nat → Int32) × (Nat → Int32))
theorem zovM_s (zo zov : Nat → Int32) (i : Nat) : (if ¬ zo i = 0 then upd (zovM zo zov i) i (zovM zo zov i i + 1) else zovM zo zov i) = zovM zo zov (i + 1) := by
  have hv : zovM zo zov i i = zov i := by unfold zovM; rw [if_neg (by omega)]
  funext s
  by_cases hb : ¬ zo i = 0
  · rw [if_pos hb, hv]
    unfold upd zovM
    by_cases q : s = i
    · subst q; rw [if_pos rfl, if_pos ⟨by omega, hb⟩]
    · rw [if_neg q]
      by_cases q2 : s < i ∧ ¬ zo s = 0
      · rw [if_pos q2, if_pos ⟨by omega, q2.2⟩]
      · rw [if_neg q2, if_neg (fun z => q2 ⟨by omega, z.2⟩)]
  · rw [if_neg hb]
    unfold zovM
    by_cases q : s = i
    · subst q; rw [if_neg (by omega), if_neg (fun z => hb z.2)]
    · by_cases q2 : s < i ∧ ¬ zo s = 0
      · rw [if_pos q2, if_pos ⟨by omega, q2.2⟩]
      · rw [if_neg q2, if_neg (fun z => q2 ⟨by omega, z.2⟩)]
theorem zshM_s (zo zsh : Nat → Int32) (rn : Int32) (i : Nat) : (if ¬ zo i = 0 ∧ zsh i = -1 then upd (zshM zo zsh rn i) i rn else zshM zo zsh rn i) = zshM zo zsh rn (i + 1) := by
  funext s
  by_cases hb : ¬ zo i = 0 ∧ zsh i = -1
  · rw [if_pos hb]
    unfold upd zshM
    by_cases q : s = i
    · subst q; rw [if_pos rfl, if_pos ⟨by omega, hb⟩]
    · rw [if_neg q]
      by_cases q2 : s < i ∧ ¬ zo s = 0 ∧ zsh s = -1
      · rw [if_pos q2, if_pos ⟨by omega, q2.2⟩]
      · rw [if_neg q2, if_neg (fun z => q2 ⟨by omega, z.2⟩)]
  · rw [if_neg hb]
    unfold zshM
    by_cases q : s = i
    · subst q; rw [if_neg (by omega), if_neg (fun z => hb z.2)]
    · by_cases q2 : s < i ∧ ¬ zo s = 0 ∧ zsh s = -1
      · rw [if_pos q2, if_pos ⟨by omega, q2.2⟩]
      · rw [if_neg q2, if_neg (fun z => q2 ⟨by omega, z.2⟩)]
theorem m_L106 {N : Nat} (hN : N ≤ 24) (zm : Int32) (zw zs zfr zto zk zt za zb : Nat → Int32) (k53 : K53) (k70 : K70) (zj zf zr : Int32) (zl : Nat → Int32) (zv : Nat → Int64) (zo zu zov ztu zsh : Nat → Int32) (x1 x2 : Int32) :
    ∀ (n i : Nat), i ≤ N → N - i < n → mX8_all_L106 (nI N) zm zw zs zfr zto zk zt za zb k53 k70 n zj zf zr zl zv zo zu (zovM zo zov i) (zovM zu ztu i) (zshM zo zsh (32 * (x1 - zfr 0) + x2 - zfr 1) i) x1 x2 (nI i) = k70 zj zf zr zl zv zo zu (zovM zo zov N) (zovM zu ztu N) (zshM zo zsh (32 * (x1 - zfr 0) + x2 - zfr 1) N) x1 (x2 + 1) := by
  intro n
  induction n with
  | zero => intro i h1 h2; omega
  | succ n ih =>
    intro i hi hn
    rw [mX8_all_L106]
    by_cases he : i = N
    · subst he
      rw [if_pos (le_of (Nat.le_refl _) (by omega))]
    · have hlt : i < N := by omega
      have g24 := gd_nI (show i < 24 by omega) (show 24 < 2147483648 by decide)
      rw [if_neg (nle_of hlt (by omega)), if_neg g24]
      have h133 : ∀ ztu' : Nat → Int32, mX8_all_L133 (nI N) zm zw zs zfr zto zk zt za zb k53 k70 (mX8_all_L106 (nI N) zm zw zs zfr zto zk zt za zb k53 k70 n) zj zf zr zl zv zo zu (zovM zo zov i) ztu' (zshM zo zsh (32 * (x1 - zfr 0) + x2 - zfr 1) i) x1 x2 (nI i) = mX8_all_L106 (nI N) zm zw zs zfr zto zk zt za zb k53 k70 n zj zf zr zl zv zo zu (zovM zo zov (i + 1)) ztu' (zshM zo zsh (32 * (x1 - zfr 0) + x2 - zfr 1) (i + 1)) x1 x2 (nI (i + 1)) := by
        intro ztu'
        have hsh : zshM zo zsh (32 * (x1 - zfr 0) + x2 - zfr 1) i i = zsh i := by unfold zshM; rw [if_neg (by omega)]
        have e1 := zovM_s zo zov i
        have e2 := zshM_s zo zsh (32 * (x1 - zfr 0) + x2 - zfr 1) i
        unfold mX8_all_L133
        rw [if_neg g24, tn_nI (by omega), hsh, tn0, tn1, nI_1]
        by_cases h1 : zo i = 0
        · rw [if_neg (fun z => z h1)] at e1
          rw [if_neg (fun z => z.1 h1)] at e2
          rw [if_pos h1, e1, e2]
        · rw [if_pos h1] at e1
          by_cases h2 : zsh i = -1
          · rw [if_pos ⟨h1, h2⟩] at e2
            rw [if_neg h1, if_pos h2, e1, e2]
          · rw [if_neg (fun z => h2 z.2)] at e2
            rw [if_neg h1, if_neg h2, e1, e2]
      have e3 := zovM_s zu ztu i
      rw [h133, h133, tn_nI (by omega)]
      by_cases h1 : zu i = 0
      · rw [if_neg (fun z => z h1)] at e3
        rw [if_pos h1, e3]
        exact ih (i + 1) (by omega) (by omega)
      · rw [if_pos h1] at e3
        rw [if_neg h1, e3]
        exact ih (i + 1) (by omega) (by omega)
/-- what the RUNS told, on both sides -/
def TyR (N T : Nat) (ro : Int32) (ov sh tu : Nat → Int32) (zr : Int32) (zov zsh ztu : Nat → Int32) : Prop := ro = zr ∧ ∀ s, s < N → ov s = zov s ∧ sh s = zsh s ∧ tu s = ztu s ∧ (zov s = 0 ↔ zsh s = -1) ∧ ∃ c, c ≤ T ∧ zov s = nI c
theorem note_rel {N T : Nat} (hN : N ≤ 24) (hT : T ≤ 1100) {ob tb fo zf ro zr : Int32} {rv zv : Nat → Int64} {zo zu ov sh tu zov zsh ztu : Nat → Int32} (hR : RunR N ob tb fo rv zf zv zo zu) (hT0 : TyR N T ro ov sh tu zr zov zsh ztu) {rn : Int32} (hrn : ¬ rn = -1) :
    TyR N (T + 1) (if ob = 0 then ro else ro + 1) (ovN ob ov 24) (shN ob rn ov sh 24) (tuN tb tu 24) (if zf = -1 then zr else zr + 1) (zovM zo zov N) (zshM zo zsh rn N) (zovM zu ztu N) := by
  obtain ⟨efo, hob, hv, hb⟩ := hR
  obtain ⟨er, hs⟩ := hT0
  refine ⟨?_, fun s hsN => ?_⟩
  · by_cases q : ob = 0
    · rw [if_pos q, if_pos (hob.mp q), er]
    · rw [if_neg q, if_neg (fun z => q (hob.mpr z)), er]
  · obtain ⟨e1, e2, e3, h0, c, hc, ec⟩ := hs s hsN
    obtain ⟨bo, bu⟩ := hb s hsN
    have ho : ¬ zo s = 0 ↔ bt ob s = true := by
      rw [bo]; by_cases q : bt ob s = true
      · rw [if_pos q]; exact ⟨fun _ => q, fun _ => by decide⟩
      · rw [if_neg q]; exact ⟨fun z => absurd rfl z, fun z => absurd z q⟩
    have hu : ¬ zu s = 0 ↔ bt tb s = true := by
      rw [bu]; by_cases q : bt tb s = true
      · rw [if_pos q]; exact ⟨fun _ => q, fun _ => by decide⟩
      · rw [if_neg q]; exact ⟨fun z => absurd rfl z, fun z => absurd z q⟩
    have hs24 : s < 24 := by omega
    have t3 : tuN tb tu 24 s = zovM zu ztu N s := by
      unfold tuN zovM
      by_cases q : bt tb s = true
      · rw [if_pos ⟨hs24, q⟩, if_pos ⟨hsN, hu.mpr q⟩, e3]
      · rw [if_neg (fun z => q z.2), if_neg (fun z => q (hu.mp z.2)), e3]
    by_cases q : bt ob s = true
    · have a1 : ovN ob ov 24 s = ov s + 1 := by unfold ovN; rw [if_pos ⟨hs24, q⟩]
      have a2 : zovM zo zov N s = zov s + 1 := by unfold zovM; rw [if_pos ⟨hsN, ho.mpr q⟩]
      have a3 : shN ob rn ov sh 24 s = if zov s = 0 then rn else zsh s := by
        unfold shN
        by_cases z : zov s = 0
        · rw [if_pos ⟨hs24, q, e1.trans z⟩, if_pos z]
        · rw [if_neg (fun y => z (e1.symm.trans y.2.2)), if_neg z, e2]
      have a4 : zshM zo zsh rn N s = if zov s = 0 then rn else zsh s := by
        unfold zshM
        by_cases z : zov s = 0
        · rw [if_pos ⟨hsN, ho.mpr q, h0.mp z⟩, if_pos z]
        · rw [if_neg (fun y => z (h0.mpr y.2.2)), if_neg z]
      have a5 : zov s + 1 = nI (c + 1) := by rw [ec, nI_1]
      rw [a1, a2, a3, a4, a5]
      refine ⟨by rw [e1, a5], rfl, t3, ?_, c + 1, by omega, rfl⟩
      refine ⟨fun y => absurd y (nI_ne0 (by omega) (by omega)), fun y => ?_⟩
      by_cases z : zov s = 0
      · rw [if_pos z] at y; exact absurd y hrn
      · rw [if_neg z] at y; exact absurd (h0.mpr y) z
    · have a1 : ovN ob ov 24 s = ov s := by unfold ovN; rw [if_neg (fun z => q z.2)]
      have a2 : zovM zo zov N s = zov s := by unfold zovM; rw [if_neg (fun z => q (ho.mp z.2))]
      have a3 : shN ob rn ov sh 24 s = sh s := by unfold shN; rw [if_neg (fun z => q z.2.1)]
      have a4 : zshM zo zsh rn N s = zsh s := by unfold zshM; rw [if_neg (fun z => q (ho.mp z.2.1))]
      rw [a1, a2, a3, a4]
      exact ⟨e1, e2, t3, h0, c, by omega, ec⟩
/-- a RUN's number is no -1 -/
theorem rn_ne {fx fy x y : Int32} {i j : Nat} (hx : x = fx + nI i) (hy : y = fy + nI j) (hi : i ≤ 31) (hj : j ≤ 31) : ¬ 32 * (x - fx) + y - fy = -1 := by
  have e : 32 * (x - fx) + y - fy = nI (32 * i + j) := by
    rw [hx, hy]
    have e1 : fx + nI i - fx = nI i := by rw [Int32.add_comm, Int32.add_sub_cancel]
    have e2 : (32 : Int32) * nI i = nI (32 * i) := pk_mul 32 i
    rw [e1, e2, ← Int32.add_assoc, Int32.add_comm (nI (32 * i)) fy, Int32.add_assoc, nI_add, Int32.add_comm fy, Int32.add_sub_cancel]
  rw [e]
  exact nI_ne_m1 (by omega)
