/-! ===== step and back ===== -/
def b2i (b : Bool) : Int32 := if b = true then 1 else 0
theorem opn_congr {kd zk : Nat → Int32} : ∀ N : Nat, (∀ i, i < N → kd i = zk i) → opn kd N = opn zk N := by
  intro N
  induction N with
  | zero => intro _; rfl
  | succ N ih =>
    intro h
    rw [opn, opn, h N (by omega), ih (fun i hi => h i (by omega))]
theorem open_c {N : Nat} (hN : N ≤ 24) (kd : Nat → Int32) : mX4_inLoop (nI N) kd = some (b2i (opn kd N)) := by
  have key : ∀ (n i : Nat), i ≤ N → N - i < n → mX4_inLoop_L4 (nI N) kd n (b2i (opn kd i)) (nI i) = some (b2i (opn kd N)) := by
    intro n
    induction n with
    | zero => intro i h1 h2; omega
    | succ n ih =>
      intro i hi hn
      rw [mX4_inLoop_L4]
      by_cases he : i = N
      · subst he
        rw [if_pos (le_of (Nat.le_refl _) (by omega)), if_neg]
        intro z
        unfold b2i at z
        by_cases q : opn kd i = true
        · rw [if_pos q] at z; exact z (Or.inr rfl)
        · rw [if_neg q] at z; exact z (Or.inl rfl)
      · have hlt : i < N := by omega
        rw [if_neg (nle_of hlt (by omega)), if_neg (gd_nI (show i < 24 by omega) (by decide)), tn_nI (by omega), nI_1]
        have hs := ih (i + 1) (by omega) (by omega)
        rw [opn] at hs
        by_cases q8 : kd i = 8
        · rw [if_pos q8]; rw [if_pos q8] at hs; exact hs
        · rw [if_neg q8]; rw [if_neg q8] at hs
          by_cases q9 : kd i = 9
          · rw [if_pos q9]; rw [if_pos q9] at hs; exact hs
          · rw [if_neg q9]; rw [if_neg q9] at hs; exact hs
  exact key FU 0 (Nat.zero_le _) (by unfold FU; omega)
theorem open_m {N : Nat} (hN : N ≤ 24) (kd : Nat → Int32) : mX8_isOpen (nI N) kd = some (b2i (opn kd N)) := by
  have key : ∀ (n i : Nat), i ≤ N → N - i < n → mX8_isOpen_L4 (nI N) kd n (b2i (opn kd i)) (nI i) = some (b2i (opn kd N)) := by
    intro n
    induction n with
    | zero => intro i h1 h2; omega
    | succ n ih =>
      intro i hi hn
      rw [mX8_isOpen_L4]
      by_cases he : i = N
      · subst he
        rw [if_pos (le_of (Nat.le_refl _) (by omega)), if_neg]
        intro z
        unfold b2i at z
        by_cases q : opn kd i = true
        · rw [if_pos q] at z; exact z (Or.inr rfl)
        · rw [if_neg q] at z; exact z (Or.inl rfl)
      · have hlt : i < N := by omega
        rw [if_neg (nle_of hlt (by omega)), if_neg (gd_nI (show i < 24 by omega) (by decide)), tn_nI (by omega), nI_1]
        have hs := ih (i + 1) (by omega) (by omega)
        rw [opn] at hs
        by_cases q8 : kd i = 8
        · rw [if_pos q8]; rw [if_pos q8] at hs; exact hs
        · rw [if_neg q8]; rw [if_neg q8] at hs
          by_cases q9 : kd i = 9
          · rw [if_pos q9]; rw [if_pos q9] at hs; exact hs
          · rw [if_neg q9]; rw [if_neg q9] at hs
            unfold b2i at hs ⊢
            by_cases q : opn kd i = true
            · rw [if_pos q] at hs ⊢; rw [if_neg (by decide)]; exact hs
            · rw [if_neg q] at hs ⊢; rw [if_pos rfl]; exact hs
  exact key FU 0 (Nat.zero_le _) (by unfold FU; omega)
theorem SpR.keep {kd tg sa sb bn zk zt za zb : Nat → Int32} {s N : Nat} (h : SpR kd tg sa sb bn zk zt za zb s) (hs : s ≠ N) (a b c d e f g i j : Int32) : SpR (upd kd N a) (upd tg N b) (upd sa N c) (upd sb N d) (upd bn N e) (upd zk N f) (upd zt N g) (upd za N i) (upd zb N j) s := by
  unfold SpR upd at *
  rw [if_neg hs, if_neg hs, if_neg hs, if_neg hs, if_neg hs, if_neg hs, if_neg hs, if_neg hs, if_neg hs]
  exact h
theorem opn_upd (zk : Nat → Int32) (N : Nat) (x : Int32) : ∀ i, i ≤ N → opn (upd zk N x) i = opn zk i := fun i hi => opn_congr i (fun j hj => by unfold upd; rw [if_neg (by omega)])
/-- a good new step: what it must be -/
def NewS (o : Bool) (x1 x2 x3 x4 ht ra rb : Int32) : Prop :=
  mX7_hasTarget x1 = some ht ∧ mX7_readsA x1 = some ra ∧ mX7_readsB x1 = some rb ∧
  ((∃ t, t < 6 ∧ x2 = nI t ∧ ht = 1 ∧ ((x1 = 0 ∧ ra = 0 ∧ rb = 0) ∨ (∃ a, a < 6 ∧ x3 = nI a ∧ ra = 1 ∧ ((x1 = 1 ∧ rb = 0) ∨ (x1 = 5 ∧ rb = 0 ∧ ∃ k, k ≤ 12 ∧ x4 = nI k) ∨ ((x1 = 2 ∨ x1 = 3 ∨ x1 = 4 ∨ x1 = 6 ∨ x1 = 7) ∧ rb = 1 ∧ ∃ b, b < 6 ∧ x4 = nI b))))) ∨ (x1 = 8 ∧ o = false ∧ ∃ k, 1 ≤ k ∧ k ≤ 12 ∧ x4 = nI k) ∨ (x1 = 9 ∧ o = true))
theorem StR.add {N : Nat} {kd tg sa sb bn zk zt za zb : Nat → Int32} (h : StR N kd tg sa sb bn zk zt za zb) (hN : N < 24) {x1 x2 x3 x4 ht ra rb : Int32} (hn : NewS (opn zk N) x1 x2 x3 x4 ht ra rb) : StR (N + 1) (upd kd N x1) (upd tg N (if ht = 0 then 0 else x2)) (upd sa N (if ra = 0 then 0 else x3)) (upd sb N x4) (upd bn N rb) (upd zk N x1) (upd zt N x2) (upd za N x3) (upd zb N x4) := by
  obtain ⟨-, hwf, hst⟩ := h
  obtain ⟨-, -, -, hn⟩ := hn
  have eN : ∀ (f : Nat → Int32) (v : Int32), upd f N v N = v := fun f v => by unfold upd; rw [if_pos rfl]
  have eS : ∀ (f : Nat → Int32) (v : Int32) (s : Nat), s ≠ N → upd f N v s = f s := fun f v s hs => by unfold upd; rw [if_neg hs]
  refine ⟨by omega, fun i hi => ?_, fun s hs => ?_⟩
  · by_cases q : i = N
    · subst q
      rw [eN, opn_upd zk i x1 i (Nat.le_refl _)]
      rcases hn with ⟨t, -, -, -, hc⟩ | ⟨e8, ho, -⟩ | ⟨e9, ho⟩
      · have hk : ¬ x1 = 8 ∧ ¬ x1 = 9 := by
          rcases hc with ⟨e, -⟩ | ⟨a, -, -, -, ⟨e, -⟩ | ⟨e, -⟩ | ⟨e | e | e | e | e, -⟩⟩ <;> rw [e] <;> exact ⟨by decide, by decide⟩
        exact ⟨fun z => absurd z hk.1, fun z => absurd z hk.2⟩
      · exact ⟨fun _ => ho, fun z => absurd (e8.symm.trans z) (by decide)⟩
      · exact ⟨fun z => absurd (e9.symm.trans z) (by decide), fun _ => ho⟩
    · rw [eS _ _ _ q, opn_upd zk N x1 i (by omega)]
      exact hwf i (by omega)
  · by_cases q : s = N
    · subst q
      refine ⟨by rw [eN, eN], by rw [eN, eN], ?_⟩
      rcases hn with ⟨t, ht6, et, eht, hc⟩ | ⟨e8, ho, k, k1, k2, ek⟩ | ⟨e9, ho⟩
      · refine Or.inl ?_
        have h1 : ¬ ht = 0 := by rw [eht]; decide
        unfold SpR
        rw [eN, eN, eN, eN, eN, eN, eN, eN, eN, if_neg h1]
        rcases hc with ⟨e, era, erb⟩ | ⟨a, ha6, eA, era, hc⟩
        · exact ⟨rfl, rfl, rfl, ⟨t, ht6, et⟩, ⟨0, by decide, by rw [if_pos era]; rfl⟩, Or.inl ⟨e, erb⟩⟩
        · have h2 : ¬ ra = 0 := by rw [era]; decide
          rw [if_neg h2]
          refine ⟨rfl, rfl, rfl, ⟨t, ht6, et⟩, ⟨a, ha6, eA⟩, ?_⟩
          rcases hc with ⟨e, erb⟩ | ⟨e, erb, hk⟩ | ⟨e, erb, hb⟩
          · exact Or.inr (Or.inl ⟨e, erb, rfl⟩)
          · exact Or.inr (Or.inr (Or.inl ⟨e, erb, rfl, hk⟩))
          · exact Or.inr (Or.inr (Or.inr ⟨e, erb, rfl, hb⟩))
      · refine Or.inr (Or.inl ⟨by rw [eN]; exact e8, k, k1, k2, by rw [eN]; exact ek⟩)
      · exact Or.inr (Or.inr (by rw [eN]; exact e9))
    · obtain ⟨e1, e2, hc⟩ := hst s (by omega)
      refine ⟨by rw [eS _ _ _ q, eS _ _ _ q]; exact e1, by rw [eS _ _ _ q, eS _ _ _ q]; exact e2, ?_⟩
      rcases hc with hp | ⟨h8, hk⟩ | h9
      · exact Or.inl (hp.keep q _ _ _ _ _ _ _ _ _)
      · exact Or.inr (Or.inl ⟨by rw [eS _ _ _ q]; exact h8, by rw [eS _ _ _ q]; exact hk⟩)
      · exact Or.inr (Or.inr (by rw [eS _ _ _ q]; exact h9))
theorem c_append {N : Nat} (hN : N < 24) {x1 ht ra rb : Int32} (h1 : mX7_hasTarget x1 = some ht) (h2 : mX7_readsA x1 = some ra) (h3 : mX7_readsB x1 = some rb) (hrb : rb = 0 ∨ rb = 1) (pl : Int32) (kd tg sa sb bn pa : Nat → Int32) (x2 x3 x4 : Int32) :
    mX4_append (nI N) pl kd tg sa sb bn pa x1 x2 x3 x4 = (mX4_retrace (nI (N + 1)) pl (upd kd N x1) (upd sb N x4) pa).bind (fun u => some (nI (N + 1), u.1, upd kd N x1, upd tg N (if ht = 0 then 0 else x2), upd sa N (if ra = 0 then 0 else x3), upd sb N x4, upd bn N rb, u.2)) := by
  have g := gd_nI hN (show 24 < 2147483648 by decide)
  have h30 : ∀ t0 : Int32, mX4_append_L30 (nI N) pl (upd kd N x1) tg sa sb bn pa x1 x3 x4 t0 (nI N) = (mX4_retrace (nI (N + 1)) pl (upd kd N x1) (upd sb N x4) pa).bind (fun u => some (nI (N + 1), u.1, upd kd N x1, upd tg N t0, upd sa N (if ra = 0 then 0 else x3), upd sb N x4, upd bn N rb, u.2)) := by
    intro t0
    unfold mX4_append_L30
    rw [if_neg g, h2, Option.bind_some, if_neg g, if_neg g, h3, Option.bind_some, Option.bind_some, tn_nI (by omega), nI_1, nar_b hrb]
    by_cases q : ra = 0
    · rw [if_pos q, if_pos q]
    · rw [if_neg q, if_neg q]
  unfold mX4_append
  rw [if_neg g, h1, Option.bind_some, tn_nI (by omega), h30, h30]
  by_cases q : ht = 0
  · rw [if_pos q, if_pos q]
  · rw [if_neg q, if_neg q]
/-! which steps can be -/
theorem name_b (x : Int32) : (mX7_isName x).bind (fun u => if ¬ (u = 0 ∨ u = 1) then none else some u) = mX7_isName x := by
  rcases isName_rel x with ⟨e, -⟩ | ⟨n, -, -, e, -⟩ <;> rw [e] <;> rfl
theorem told_b (x : Int32) : (mX7_isTold x).bind (fun u => if ¬ (u = 0 ∨ u = 1) then none else some u) = mX7_isTold x := by
  rw [isTold_c]
  by_cases h : x.toInt < -100000 ∨ 100000 < x.toInt
  · rw [if_pos h]; rfl
  · rw [if_neg h]; rfl
theorem rng_c (x lo hi : Int32) : (if x < lo then some (0 : Int32) else if hi < x then some 0 else some 1) = some (if x.toInt < lo.toInt ∨ hi.toInt < x.toInt then 0 else 1) := by
  by_cases h1 : x < lo
  · rw [if_pos h1]; rw [Int32.lt_iff_toInt_lt] at h1; rw [if_pos (Or.inl h1)]
  · rw [if_neg h1]; rw [Int32.lt_iff_toInt_lt] at h1
    by_cases h2 : hi < x
    · rw [if_pos h2]; rw [Int32.lt_iff_toInt_lt] at h2; rw [if_pos (Or.inr h2)]
    · rw [if_neg h2]; rw [Int32.lt_iff_toInt_lt] at h2; rw [if_neg (by omega)]
theorem ht0_ : mX7_hasTarget 0 = some 1 := by decide
theorem ra0_ : mX7_readsA 0 = some 0 := by decide
theorem rb0_ : mX7_readsB 0 = some 0 := by decide
theorem ht1_ : mX7_hasTarget 1 = some 1 := by decide
theorem ra1_ : mX7_readsA 1 = some 1 := by decide
theorem rb1_ : mX7_readsB 1 = some 0 := by decide
theorem ht2_ : mX7_hasTarget 2 = some 1 := by decide
theorem ra2_ : mX7_readsA 2 = some 1 := by decide
theorem rb2_ : mX7_readsB 2 = some 1 := by decide
theorem ht3_ : mX7_hasTarget 3 = some 1 := by decide
theorem ra3_ : mX7_readsA 3 = some 1 := by decide
theorem rb3_ : mX7_readsB 3 = some 1 := by decide
theorem ht4_ : mX7_hasTarget 4 = some 1 := by decide
theorem ra4_ : mX7_readsA 4 = some 1 := by decide
theorem rb4_ : mX7_readsB 4 = some 1 := by decide
theorem ht5_ : mX7_hasTarget 5 = some 1 := by decide
theorem ra5_ : mX7_readsA 5 = some 1 := by decide
theorem rb5_ : mX7_readsB 5 = some 0 := by decide
theorem ht6_ : mX7_hasTarget 6 = some 1 := by decide
theorem ra6_ : mX7_readsA 6 = some 1 := by decide
theorem rb6_ : mX7_readsB 6 = some 1 := by decide
theorem ht7_ : mX7_hasTarget 7 = some 1 := by decide
theorem ra7_ : mX7_readsA 7 = some 1 := by decide
theorem rb7_ : mX7_readsB 7 = some 1 := by decide
theorem ht8_ : mX7_hasTarget 8 = some 0 := by decide
theorem ra8_ : mX7_readsA 8 = some 0 := by decide
theorem rb8_ : mX7_readsB 8 = some 0 := by decide
theorem ht9_ : mX7_hasTarget 9 = some 0 := by decide
theorem ra9_ : mX7_readsA 9 = some 0 := by decide
theorem rb9_ : mX7_readsB 9 = some 0 := by decide
theorem cb0 (b : Int32) : mX7_canBeB 0 b = mX7_isTold b := by
  unfold mX7_canBeB
  rw [rb0_, Option.bind_some, if_pos (show (0 : Int32) = 0 from rfl), if_pos (show (0 : Int32) = 0 from rfl)]
  exact told_b b
theorem cb1 (b : Int32) : mX7_canBeB 1 b = some 1 := by
  unfold mX7_canBeB
  rw [rb1_, Option.bind_some, if_pos (show (0 : Int32) = 0 from rfl), if_neg (show ¬ (1 : Int32) = 0 by decide), if_neg (show ¬ (1 : Int32) = 5 by decide), if_neg (show ¬ (1 : Int32) = 8 by decide)]
theorem cb2 (b : Int32) : mX7_canBeB 2 b = mX7_isName b := by
  unfold mX7_canBeB
  rw [rb2_, Option.bind_some, if_neg (show ¬ (1 : Int32) = 0 by decide)]
  exact name_b b
theorem cb3 (b : Int32) : mX7_canBeB 3 b = mX7_isName b := by
  unfold mX7_canBeB
  rw [rb3_, Option.bind_some, if_neg (show ¬ (1 : Int32) = 0 by decide)]
  exact name_b b
theorem cb4 (b : Int32) : mX7_canBeB 4 b = mX7_isName b := by
  unfold mX7_canBeB
  rw [rb4_, Option.bind_some, if_neg (show ¬ (1 : Int32) = 0 by decide)]
  exact name_b b
theorem cb5 (b : Int32) : mX7_canBeB 5 b = some (if b.toInt < (0 : Int32).toInt ∨ (12 : Int32).toInt < b.toInt then 0 else 1) := by
  unfold mX7_canBeB
  rw [rb5_, Option.bind_some, if_pos (show (0 : Int32) = 0 from rfl), if_neg (show ¬ (5 : Int32) = 0 by decide), if_pos (show (5 : Int32) = 5 from rfl)]
  exact rng_c b 0 12
theorem cb6 (b : Int32) : mX7_canBeB 6 b = mX7_isName b := by
  unfold mX7_canBeB
  rw [rb6_, Option.bind_some, if_neg (show ¬ (1 : Int32) = 0 by decide)]
  exact name_b b
theorem cb7 (b : Int32) : mX7_canBeB 7 b = mX7_isName b := by
  unfold mX7_canBeB
  rw [rb7_, Option.bind_some, if_neg (show ¬ (1 : Int32) = 0 by decide)]
  exact name_b b
theorem cb8 (b : Int32) : mX7_canBeB 8 b = some (if b.toInt < (1 : Int32).toInt ∨ (12 : Int32).toInt < b.toInt then 0 else 1) := by
  unfold mX7_canBeB
  rw [rb8_, Option.bind_some, if_pos (show (0 : Int32) = 0 from rfl), if_neg (show ¬ (8 : Int32) = 0 by decide), if_neg (show ¬ (8 : Int32) = 5 by decide), if_pos (show (8 : Int32) = 8 from rfl)]
  exact rng_c b 1 12
theorem cb9 (b : Int32) : mX7_canBeB 9 b = some 1 := by
  unfold mX7_canBeB
  rw [rb9_, Option.bind_some, if_pos (show (0 : Int32) = 0 from rfl), if_neg (show ¬ (9 : Int32) = 0 by decide), if_neg (show ¬ (9 : Int32) = 5 by decide), if_neg (show ¬ (9 : Int32) = 8 by decide)]
theorem bb {x : Option Int32} {v : Int32} (h : x = some v) (hv : v = 0 ∨ v = 1) : x.bind (fun u => if ¬ (u = 0 ∨ u = 1) then none else some u) = some v := by
  rw [h, Option.bind_some, if_neg (fun z => z hv)]
/-- both sides judge a new step alike; a good one is a NewS -/
theorem can_rel {N : Nat} (hN : N ≤ 24) {kd zk : Nat → Int32} (hk : ∀ i, i < N → kd i = zk i) (x1 x2 x3 x4 : Int32) :
    (mX8_canBe (nI N) zk x1 x2 x3 x4 = some 0 ∧ ∃ f c, mX7_canFollow (nI N) kd x1 = some f ∧ mX7_canBe x1 x2 x3 x4 = some c ∧ (f = 0 ∨ c = 0)) ∨
    (mX8_canBe (nI N) zk x1 x2 x3 x4 = some 1 ∧ mX7_canFollow (nI N) kd x1 = some 1 ∧ mX7_canBe x1 x2 x3 x4 = some 1 ∧ ∃ ht ra rb, (rb = 0 ∨ rb = 1) ∧ NewS (opn zk N) x1 x2 x3 x4 ht ra rb) := by
  have hop : opn kd N = opn zk N := opn_congr N hk
  have km : (-100000 : Int64).toInt = -100000 := by decide
  have kp : (100000 : Int64).toInt = 100000 := by decide
  have k0 : (0 : Int64).toInt = 0 := by decide
  have k1 : (1 : Int64).toInt = 1 := by decide
  have k12 : (12 : Int64).toInt = 12 := by decide
  have j0 : (0 : Int32).toInt = 0 := by decide
  have j1 : (1 : Int32).toInt = 1 := by decide
  have j9 : (9 : Int32).toInt = 9 := by decide
  have j12 : (12 : Int32).toInt = 12 := by decide
  by_cases hx : x1.toInt < 0 ∨ 9 < x1.toInt
  · refine Or.inl ⟨?_, ?_⟩
    · have hne : ∀ k : Int32, 0 ≤ k.toInt → k.toInt ≤ 9 → ¬ x1 = k := fun k h1 h2 e => by rw [e] at hx; omega
      unfold mX8_canBe
      rw [if_neg (hne 0 (by decide) (by decide)), if_neg (hne 1 (by decide) (by decide)), if_neg (show ¬ (x1 = 2 ∨ x1 = 3 ∨ x1 = 4 ∨ x1 = 6 ∨ x1 = 7) from fun z => by
        rcases z with z | z | z | z | z
        · exact hne 2 (by decide) (by decide) z
        · exact hne 3 (by decide) (by decide) z
        · exact hne 4 (by decide) (by decide) z
        · exact hne 6 (by decide) (by decide) z
        · exact hne 7 (by decide) (by decide) z), if_neg (hne 5 (by decide) (by decide)), if_neg (hne 8 (by decide) (by decide)), if_neg (hne 9 (by decide) (by decide))]
    · have hf : ∃ f, mX7_canFollow (nI N) kd x1 = some f := by
        unfold mX7_canFollow
        rw [open_c hN, Option.bind_some, Option.bind_some]
        by_cases q1 : x1 = 8
        · rw [if_pos q1]
          by_cases q : b2i (opn kd N) = 0
          · rw [if_pos q]; exact ⟨_, rfl⟩
          · rw [if_neg q]; exact ⟨_, rfl⟩
        · rw [if_neg q1]
          by_cases q2 : x1 = 9
          · rw [if_pos q2]
            by_cases q : b2i (opn kd N) = 0
            · rw [if_pos q]; exact ⟨_, rfl⟩
            · rw [if_neg q]; exact ⟨_, rfl⟩
          · rw [if_neg q2]; exact ⟨_, rfl⟩
      obtain ⟨f, hf⟩ := hf
      refine ⟨f, 0, hf, ?_, Or.inr rfl⟩
      unfold mX7_canBe
      by_cases q : x1 < 0
      · rw [if_pos q]
      · rw [Int32.lt_iff_toInt_lt, j0] at q
        rw [if_neg (show ¬ x1 < 0 by rw [Int32.lt_iff_toInt_lt, j0]; exact q), if_neg (show ¬ x1 ≤ 9 by rw [Int32.le_iff_toInt_le, j9]; omega)]
  · obtain ⟨k, hk10, rfl⟩ := of_rng (x := x1) (n := 10) (by omega) (by omega) (by decide)
    rcases (show k = 0 ∨ k = 1 ∨ k = 2 ∨ k = 3 ∨ k = 4 ∨ k = 5 ∨ k = 6 ∨ k = 7 ∨ k = 8 ∨ k = 9 by omega) with rfl | rfl | rfl | rfl | rfl | rfl | rfl | rfl | rfl | rfl
    · show (mX8_canBe (nI N) zk 0 x2 x3 x4 = some 0 ∧ ∃ f c, mX7_canFollow (nI N) kd 0 = some f ∧ mX7_canBe 0 x2 x3 x4 = some c ∧ (f = 0 ∨ c = 0)) ∨ (mX8_canBe (nI N) zk 0 x2 x3 x4 = some 1 ∧ mX7_canFollow (nI N) kd 0 = some 1 ∧ mX7_canBe 0 x2 x3 x4 = some 1 ∧ ∃ ht ra rb, (rb = 0 ∨ rb = 1) ∧ NewS (opn zk N) 0 x2 x3 x4 ht ra rb)
      have hf : mX7_canFollow (nI N) kd 0 = some 1 := by
        unfold mX7_canFollow
        rw [if_neg (show ¬ (0 : Int32) = 8 by decide), if_neg (show ¬ (0 : Int32) = 9 by decide)]
      unfold mX8_canBe mX7_canBe
      rw [hf, if_pos (show (0 : Int32) = 0 from rfl), if_neg (show ¬ (0 : Int32) < 0 by decide), if_pos (show (0 : Int32) ≤ 9 by decide), ht0_, Option.bind_some, if_neg (show ¬ (1 : Int32) = 0 by decide), ra0_, Option.bind_some]
      rcases isName_rel x2 with ⟨a1, a2⟩ | ⟨t, ht6, et, a1, a2⟩
      · rw [a1, a2, Option.bind_some, Option.bind_some, if_pos (show (0 : Int32) = 0 from rfl), if_pos (show (0 : Int32) = 0 from rfl)]
        exact Or.inl ⟨rfl, _, _, rfl, rfl, Or.inr rfl⟩
      · rw [a1, a2, Option.bind_some, Option.bind_some, if_neg (show ¬ (1 : Int32) = 0 by decide), if_neg (show ¬ (1 : Int32) = 0 by decide), if_pos (show (0 : Int32) = 0 from rfl), cb0, told_b, isTold_c, lt64x, km, kp, Option.bind_some]
        by_cases q : x4.toInt < -100000 ∨ 100000 < x4.toInt
        · rw [if_pos q, if_pos (show (0 : Int32) = 0 from rfl)]
          exact Or.inl ⟨rfl, _, _, rfl, rfl, Or.inr rfl⟩
        · rw [if_neg q, if_neg (show ¬ (1 : Int32) = 0 by decide)]
          exact Or.inr ⟨rfl, rfl, rfl, 1, 0, 0, Or.inl rfl, ht0_, ra0_, rb0_, Or.inl ⟨t, ht6, et, rfl, Or.inl ⟨rfl, rfl, rfl⟩⟩⟩
    · show (mX8_canBe (nI N) zk 1 x2 x3 x4 = some 0 ∧ ∃ f c, mX7_canFollow (nI N) kd 1 = some f ∧ mX7_canBe 1 x2 x3 x4 = some c ∧ (f = 0 ∨ c = 0)) ∨ (mX8_canBe (nI N) zk 1 x2 x3 x4 = some 1 ∧ mX7_canFollow (nI N) kd 1 = some 1 ∧ mX7_canBe 1 x2 x3 x4 = some 1 ∧ ∃ ht ra rb, (rb = 0 ∨ rb = 1) ∧ NewS (opn zk N) 1 x2 x3 x4 ht ra rb)
      have hf : mX7_canFollow (nI N) kd 1 = some 1 := by
        unfold mX7_canFollow
        rw [if_neg (show ¬ (1 : Int32) = 8 by decide), if_neg (show ¬ (1 : Int32) = 9 by decide)]
      unfold mX8_canBe mX7_canBe
      rw [hf, if_neg (show ¬ (1 : Int32) = 0 by decide), if_pos (show (1 : Int32) = 1 from rfl), if_neg (show ¬ (1 : Int32) < 0 by decide), if_pos (show (1 : Int32) ≤ 9 by decide), ht1_, Option.bind_some, if_neg (show ¬ (1 : Int32) = 0 by decide), ra1_, Option.bind_some]
      rcases isName_rel x2 with ⟨a1, a2⟩ | ⟨t, ht6, et, a1, a2⟩
      · rw [a1, a2, Option.bind_some, Option.bind_some, if_pos (show (0 : Int32) = 0 from rfl), if_pos (show (0 : Int32) = 0 from rfl)]
        exact Or.inl ⟨rfl, _, _, rfl, rfl, Or.inr rfl⟩
      · rw [a1, a2, Option.bind_some, Option.bind_some, if_neg (show ¬ (1 : Int32) = 0 by decide), if_neg (show ¬ (1 : Int32) = 0 by decide), if_neg (show ¬ (1 : Int32) = 0 by decide)]
        rcases isName_rel x3 with ⟨b1, b2⟩ | ⟨a, ha6, eA, b1, b2⟩
        · rw [b1, b2, Option.bind_some, Option.bind_some, if_pos (show (0 : Int32) = 0 from rfl), if_pos (show (0 : Int32) = 0 from rfl)]
          exact Or.inl ⟨rfl, _, _, rfl, rfl, Or.inr rfl⟩
        · rw [b1, b2, Option.bind_some, Option.bind_some, if_neg (show ¬ (1 : Int32) = 0 by decide), if_neg (show ¬ (1 : Int32) = 0 by decide), cb1]
          exact Or.inr ⟨rfl, rfl, rfl, 1, 1, 0, Or.inl rfl, ht1_, ra1_, rb1_, Or.inl ⟨t, ht6, et, rfl, Or.inr ⟨a, ha6, eA, rfl, Or.inl ⟨rfl, rfl⟩⟩⟩⟩
    · show (mX8_canBe (nI N) zk 2 x2 x3 x4 = some 0 ∧ ∃ f c, mX7_canFollow (nI N) kd 2 = some f ∧ mX7_canBe 2 x2 x3 x4 = some c ∧ (f = 0 ∨ c = 0)) ∨ (mX8_canBe (nI N) zk 2 x2 x3 x4 = some 1 ∧ mX7_canFollow (nI N) kd 2 = some 1 ∧ mX7_canBe 2 x2 x3 x4 = some 1 ∧ ∃ ht ra rb, (rb = 0 ∨ rb = 1) ∧ NewS (opn zk N) 2 x2 x3 x4 ht ra rb)
      have hf : mX7_canFollow (nI N) kd 2 = some 1 := by
        unfold mX7_canFollow
        rw [if_neg (show ¬ (2 : Int32) = 8 by decide), if_neg (show ¬ (2 : Int32) = 9 by decide)]
      unfold mX8_canBe mX7_canBe
      rw [hf, if_neg (show ¬ (2 : Int32) = 0 by decide), if_neg (show ¬ (2 : Int32) = 1 by decide), if_pos (show (2 : Int32) = 2 ∨ (2 : Int32) = 3 ∨ (2 : Int32) = 4 ∨ (2 : Int32) = 6 ∨ (2 : Int32) = 7 by decide), if_neg (show ¬ (2 : Int32) < 0 by decide), if_pos (show (2 : Int32) ≤ 9 by decide), ht2_, Option.bind_some, if_neg (show ¬ (1 : Int32) = 0 by decide), ra2_, Option.bind_some]
      rcases isName_rel x2 with ⟨a1, a2⟩ | ⟨t, ht6, et, a1, a2⟩
      · rw [a1, a2, Option.bind_some, Option.bind_some, if_pos (show (0 : Int32) = 0 from rfl), if_pos (show (0 : Int32) = 0 from rfl)]
        exact Or.inl ⟨rfl, _, _, rfl, rfl, Or.inr rfl⟩
      · rw [a1, a2, Option.bind_some, Option.bind_some, if_neg (show ¬ (1 : Int32) = 0 by decide), if_neg (show ¬ (1 : Int32) = 0 by decide), if_neg (show ¬ (1 : Int32) = 0 by decide)]
        rcases isName_rel x3 with ⟨b1, b2⟩ | ⟨a, ha6, eA, b1, b2⟩
        · rw [b1, b2, Option.bind_some, Option.bind_some, if_pos (show (0 : Int32) = 0 from rfl), if_pos (show (0 : Int32) = 0 from rfl)]
          exact Or.inl ⟨rfl, _, _, rfl, rfl, Or.inr rfl⟩
        · rw [b1, b2, Option.bind_some, Option.bind_some, if_neg (show ¬ (1 : Int32) = 0 by decide), if_neg (show ¬ (1 : Int32) = 0 by decide), cb2, name_b]
          rcases isName_rel x4 with ⟨c1, c2⟩ | ⟨b, hb6, eB, c1, c2⟩
          · rw [c1, c2, Option.bind_some, if_pos (show (0 : Int32) = 0 from rfl)]
            exact Or.inl ⟨rfl, _, _, rfl, rfl, Or.inr rfl⟩
          · rw [c1, c2, Option.bind_some, if_neg (show ¬ (1 : Int32) = 0 by decide)]
            exact Or.inr ⟨rfl, rfl, rfl, 1, 1, 1, Or.inr rfl, ht2_, ra2_, rb2_, Or.inl ⟨t, ht6, et, rfl, Or.inr ⟨a, ha6, eA, rfl, Or.inr (Or.inr ⟨Or.inl rfl, rfl, b, hb6, eB⟩)⟩⟩⟩
    · show (mX8_canBe (nI N) zk 3 x2 x3 x4 = some 0 ∧ ∃ f c, mX7_canFollow (nI N) kd 3 = some f ∧ mX7_canBe 3 x2 x3 x4 = some c ∧ (f = 0 ∨ c = 0)) ∨ (mX8_canBe (nI N) zk 3 x2 x3 x4 = some 1 ∧ mX7_canFollow (nI N) kd 3 = some 1 ∧ mX7_canBe 3 x2 x3 x4 = some 1 ∧ ∃ ht ra rb, (rb = 0 ∨ rb = 1) ∧ NewS (opn zk N) 3 x2 x3 x4 ht ra rb)
      have hf : mX7_canFollow (nI N) kd 3 = some 1 := by
        unfold mX7_canFollow
        rw [if_neg (show ¬ (3 : Int32) = 8 by decide), if_neg (show ¬ (3 : Int32) = 9 by decide)]
      unfold mX8_canBe mX7_canBe
      rw [hf, if_neg (show ¬ (3 : Int32) = 0 by decide), if_neg (show ¬ (3 : Int32) = 1 by decide), if_pos (show (3 : Int32) = 2 ∨ (3 : Int32) = 3 ∨ (3 : Int32) = 4 ∨ (3 : Int32) = 6 ∨ (3 : Int32) = 7 by decide), if_neg (show ¬ (3 : Int32) < 0 by decide), if_pos (show (3 : Int32) ≤ 9 by decide), ht3_, Option.bind_some, if_neg (show ¬ (1 : Int32) = 0 by decide), ra3_, Option.bind_some]
      rcases isName_rel x2 with ⟨a1, a2⟩ | ⟨t, ht6, et, a1, a2⟩
      · rw [a1, a2, Option.bind_some, Option.bind_some, if_pos (show (0 : Int32) = 0 from rfl), if_pos (show (0 : Int32) = 0 from rfl)]
        exact Or.inl ⟨rfl, _, _, rfl, rfl, Or.inr rfl⟩
      · rw [a1, a2, Option.bind_some, Option.bind_some, if_neg (show ¬ (1 : Int32) = 0 by decide), if_neg (show ¬ (1 : Int32) = 0 by decide), if_neg (show ¬ (1 : Int32) = 0 by decide)]
        rcases isName_rel x3 with ⟨b1, b2⟩ | ⟨a, ha6, eA, b1, b2⟩
        · rw [b1, b2, Option.bind_some, Option.bind_some, if_pos (show (0 : Int32) = 0 from rfl), if_pos (show (0 : Int32) = 0 from rfl)]
          exact Or.inl ⟨rfl, _, _, rfl, rfl, Or.inr rfl⟩
        · rw [b1, b2, Option.bind_some, Option.bind_some, if_neg (show ¬ (1 : Int32) = 0 by decide), if_neg (show ¬ (1 : Int32) = 0 by decide), cb3, name_b]
          rcases isName_rel x4 with ⟨c1, c2⟩ | ⟨b, hb6, eB, c1, c2⟩
          · rw [c1, c2, Option.bind_some, if_pos (show (0 : Int32) = 0 from rfl)]
            exact Or.inl ⟨rfl, _, _, rfl, rfl, Or.inr rfl⟩
          · rw [c1, c2, Option.bind_some, if_neg (show ¬ (1 : Int32) = 0 by decide)]
            exact Or.inr ⟨rfl, rfl, rfl, 1, 1, 1, Or.inr rfl, ht3_, ra3_, rb3_, Or.inl ⟨t, ht6, et, rfl, Or.inr ⟨a, ha6, eA, rfl, Or.inr (Or.inr ⟨Or.inr (Or.inl rfl), rfl, b, hb6, eB⟩)⟩⟩⟩
    · show (mX8_canBe (nI N) zk 4 x2 x3 x4 = some 0 ∧ ∃ f c, mX7_canFollow (nI N) kd 4 = some f ∧ mX7_canBe 4 x2 x3 x4 = some c ∧ (f = 0 ∨ c = 0)) ∨ (mX8_canBe (nI N) zk 4 x2 x3 x4 = some 1 ∧ mX7_canFollow (nI N) kd 4 = some 1 ∧ mX7_canBe 4 x2 x3 x4 = some 1 ∧ ∃ ht ra rb, (rb = 0 ∨ rb = 1) ∧ NewS (opn zk N) 4 x2 x3 x4 ht ra rb)
      have hf : mX7_canFollow (nI N) kd 4 = some 1 := by
        unfold mX7_canFollow
        rw [if_neg (show ¬ (4 : Int32) = 8 by decide), if_neg (show ¬ (4 : Int32) = 9 by decide)]
      unfold mX8_canBe mX7_canBe
      rw [hf, if_neg (show ¬ (4 : Int32) = 0 by decide), if_neg (show ¬ (4 : Int32) = 1 by decide), if_pos (show (4 : Int32) = 2 ∨ (4 : Int32) = 3 ∨ (4 : Int32) = 4 ∨ (4 : Int32) = 6 ∨ (4 : Int32) = 7 by decide), if_neg (show ¬ (4 : Int32) < 0 by decide), if_pos (show (4 : Int32) ≤ 9 by decide), ht4_, Option.bind_some, if_neg (show ¬ (1 : Int32) = 0 by decide), ra4_, Option.bind_some]
      rcases isName_rel x2 with ⟨a1, a2⟩ | ⟨t, ht6, et, a1, a2⟩
      · rw [a1, a2, Option.bind_some, Option.bind_some, if_pos (show (0 : Int32) = 0 from rfl), if_pos (show (0 : Int32) = 0 from rfl)]
        exact Or.inl ⟨rfl, _, _, rfl, rfl, Or.inr rfl⟩
      · rw [a1, a2, Option.bind_some, Option.bind_some, if_neg (show ¬ (1 : Int32) = 0 by decide), if_neg (show ¬ (1 : Int32) = 0 by decide), if_neg (show ¬ (1 : Int32) = 0 by decide)]
        rcases isName_rel x3 with ⟨b1, b2⟩ | ⟨a, ha6, eA, b1, b2⟩
        · rw [b1, b2, Option.bind_some, Option.bind_some, if_pos (show (0 : Int32) = 0 from rfl), if_pos (show (0 : Int32) = 0 from rfl)]
          exact Or.inl ⟨rfl, _, _, rfl, rfl, Or.inr rfl⟩
        · rw [b1, b2, Option.bind_some, Option.bind_some, if_neg (show ¬ (1 : Int32) = 0 by decide), if_neg (show ¬ (1 : Int32) = 0 by decide), cb4, name_b]
          rcases isName_rel x4 with ⟨c1, c2⟩ | ⟨b, hb6, eB, c1, c2⟩
          · rw [c1, c2, Option.bind_some, if_pos (show (0 : Int32) = 0 from rfl)]
            exact Or.inl ⟨rfl, _, _, rfl, rfl, Or.inr rfl⟩
          · rw [c1, c2, Option.bind_some, if_neg (show ¬ (1 : Int32) = 0 by decide)]
            exact Or.inr ⟨rfl, rfl, rfl, 1, 1, 1, Or.inr rfl, ht4_, ra4_, rb4_, Or.inl ⟨t, ht6, et, rfl, Or.inr ⟨a, ha6, eA, rfl, Or.inr (Or.inr ⟨Or.inr (Or.inr (Or.inl rfl)), rfl, b, hb6, eB⟩)⟩⟩⟩
    · show (mX8_canBe (nI N) zk 5 x2 x3 x4 = some 0 ∧ ∃ f c, mX7_canFollow (nI N) kd 5 = some f ∧ mX7_canBe 5 x2 x3 x4 = some c ∧ (f = 0 ∨ c = 0)) ∨ (mX8_canBe (nI N) zk 5 x2 x3 x4 = some 1 ∧ mX7_canFollow (nI N) kd 5 = some 1 ∧ mX7_canBe 5 x2 x3 x4 = some 1 ∧ ∃ ht ra rb, (rb = 0 ∨ rb = 1) ∧ NewS (opn zk N) 5 x2 x3 x4 ht ra rb)
      have hf : mX7_canFollow (nI N) kd 5 = some 1 := by
        unfold mX7_canFollow
        rw [if_neg (show ¬ (5 : Int32) = 8 by decide), if_neg (show ¬ (5 : Int32) = 9 by decide)]
      unfold mX8_canBe mX7_canBe
      rw [hf, if_neg (show ¬ (5 : Int32) = 0 by decide), if_neg (show ¬ (5 : Int32) = 1 by decide), if_neg (show ¬ ((5 : Int32) = 2 ∨ (5 : Int32) = 3 ∨ (5 : Int32) = 4 ∨ (5 : Int32) = 6 ∨ (5 : Int32) = 7) by decide), if_pos (show (5 : Int32) = 5 from rfl), if_neg (show ¬ (5 : Int32) < 0 by decide), if_pos (show (5 : Int32) ≤ 9 by decide), ht5_, Option.bind_some, if_neg (show ¬ (1 : Int32) = 0 by decide), ra5_, Option.bind_some]
      rcases isName_rel x2 with ⟨a1, a2⟩ | ⟨t, ht6, et, a1, a2⟩
      · rw [a1, a2, Option.bind_some, Option.bind_some, if_pos (show (0 : Int32) = 0 from rfl), if_pos (show (0 : Int32) = 0 from rfl)]
        exact Or.inl ⟨rfl, _, _, rfl, rfl, Or.inr rfl⟩
      · rw [a1, a2, Option.bind_some, Option.bind_some, if_neg (show ¬ (1 : Int32) = 0 by decide), if_neg (show ¬ (1 : Int32) = 0 by decide), if_neg (show ¬ (1 : Int32) = 0 by decide)]
        rcases isName_rel x3 with ⟨b1, b2⟩ | ⟨a, ha6, eA, b1, b2⟩
        · rw [b1, b2, Option.bind_some, Option.bind_some, if_pos (show (0 : Int32) = 0 from rfl), if_pos (show (0 : Int32) = 0 from rfl)]
          exact Or.inl ⟨rfl, _, _, rfl, rfl, Or.inr rfl⟩
        · rw [b1, b2, Option.bind_some, Option.bind_some, if_neg (show ¬ (1 : Int32) = 0 by decide), if_neg (show ¬ (1 : Int32) = 0 by decide), cb5, lt64x, k0, k12, j0, j12, Option.bind_some, Option.bind_some]
          by_cases q : x4.toInt < 0 ∨ 12 < x4.toInt
          · rw [if_pos q, if_pos (show (0 : Int32) = 0 from rfl)]
            exact Or.inl ⟨rfl, _, _, rfl, rfl, Or.inr rfl⟩
          · rw [if_neg q, if_neg (show ¬ (1 : Int32) = 0 by decide)]
            obtain ⟨k, hk13, e4⟩ := of_rng (x := x4) (n := 13) (by omega) (by omega) (by decide)
            exact Or.inr ⟨rfl, rfl, rfl, 1, 1, 0, Or.inl rfl, ht5_, ra5_, rb5_, Or.inl ⟨t, ht6, et, rfl, Or.inr ⟨a, ha6, eA, rfl, Or.inr (Or.inl ⟨rfl, rfl, k, by omega, e4⟩)⟩⟩⟩
    · show (mX8_canBe (nI N) zk 6 x2 x3 x4 = some 0 ∧ ∃ f c, mX7_canFollow (nI N) kd 6 = some f ∧ mX7_canBe 6 x2 x3 x4 = some c ∧ (f = 0 ∨ c = 0)) ∨ (mX8_canBe (nI N) zk 6 x2 x3 x4 = some 1 ∧ mX7_canFollow (nI N) kd 6 = some 1 ∧ mX7_canBe 6 x2 x3 x4 = some 1 ∧ ∃ ht ra rb, (rb = 0 ∨ rb = 1) ∧ NewS (opn zk N) 6 x2 x3 x4 ht ra rb)
      have hf : mX7_canFollow (nI N) kd 6 = some 1 := by
        unfold mX7_canFollow
        rw [if_neg (show ¬ (6 : Int32) = 8 by decide), if_neg (show ¬ (6 : Int32) = 9 by decide)]
      unfold mX8_canBe mX7_canBe
      rw [hf, if_neg (show ¬ (6 : Int32) = 0 by decide), if_neg (show ¬ (6 : Int32) = 1 by decide), if_pos (show (6 : Int32) = 2 ∨ (6 : Int32) = 3 ∨ (6 : Int32) = 4 ∨ (6 : Int32) = 6 ∨ (6 : Int32) = 7 by decide), if_neg (show ¬ (6 : Int32) < 0 by decide), if_pos (show (6 : Int32) ≤ 9 by decide), ht6_, Option.bind_some, if_neg (show ¬ (1 : Int32) = 0 by decide), ra6_, Option.bind_some]
      rcases isName_rel x2 with ⟨a1, a2⟩ | ⟨t, ht6, et, a1, a2⟩
      · rw [a1, a2, Option.bind_some, Option.bind_some, if_pos (show (0 : Int32) = 0 from rfl), if_pos (show (0 : Int32) = 0 from rfl)]
        exact Or.inl ⟨rfl, _, _, rfl, rfl, Or.inr rfl⟩
      · rw [a1, a2, Option.bind_some, Option.bind_some, if_neg (show ¬ (1 : Int32) = 0 by decide), if_neg (show ¬ (1 : Int32) = 0 by decide), if_neg (show ¬ (1 : Int32) = 0 by decide)]
        rcases isName_rel x3 with ⟨b1, b2⟩ | ⟨a, ha6, eA, b1, b2⟩
        · rw [b1, b2, Option.bind_some, Option.bind_some, if_pos (show (0 : Int32) = 0 from rfl), if_pos (show (0 : Int32) = 0 from rfl)]
          exact Or.inl ⟨rfl, _, _, rfl, rfl, Or.inr rfl⟩
        · rw [b1, b2, Option.bind_some, Option.bind_some, if_neg (show ¬ (1 : Int32) = 0 by decide), if_neg (show ¬ (1 : Int32) = 0 by decide), cb6, name_b]
          rcases isName_rel x4 with ⟨c1, c2⟩ | ⟨b, hb6, eB, c1, c2⟩
          · rw [c1, c2, Option.bind_some, if_pos (show (0 : Int32) = 0 from rfl)]
            exact Or.inl ⟨rfl, _, _, rfl, rfl, Or.inr rfl⟩
          · rw [c1, c2, Option.bind_some, if_neg (show ¬ (1 : Int32) = 0 by decide)]
            exact Or.inr ⟨rfl, rfl, rfl, 1, 1, 1, Or.inr rfl, ht6_, ra6_, rb6_, Or.inl ⟨t, ht6, et, rfl, Or.inr ⟨a, ha6, eA, rfl, Or.inr (Or.inr ⟨Or.inr (Or.inr (Or.inr (Or.inl rfl))), rfl, b, hb6, eB⟩)⟩⟩⟩
    · show (mX8_canBe (nI N) zk 7 x2 x3 x4 = some 0 ∧ ∃ f c, mX7_canFollow (nI N) kd 7 = some f ∧ mX7_canBe 7 x2 x3 x4 = some c ∧ (f = 0 ∨ c = 0)) ∨ (mX8_canBe (nI N) zk 7 x2 x3 x4 = some 1 ∧ mX7_canFollow (nI N) kd 7 = some 1 ∧ mX7_canBe 7 x2 x3 x4 = some 1 ∧ ∃ ht ra rb, (rb = 0 ∨ rb = 1) ∧ NewS (opn zk N) 7 x2 x3 x4 ht ra rb)
      have hf : mX7_canFollow (nI N) kd 7 = some 1 := by
        unfold mX7_canFollow
        rw [if_neg (show ¬ (7 : Int32) = 8 by decide), if_neg (show ¬ (7 : Int32) = 9 by decide)]
      unfold mX8_canBe mX7_canBe
      rw [hf, if_neg (show ¬ (7 : Int32) = 0 by decide), if_neg (show ¬ (7 : Int32) = 1 by decide), if_pos (show (7 : Int32) = 2 ∨ (7 : Int32) = 3 ∨ (7 : Int32) = 4 ∨ (7 : Int32) = 6 ∨ (7 : Int32) = 7 by decide), if_neg (show ¬ (7 : Int32) < 0 by decide), if_pos (show (7 : Int32) ≤ 9 by decide), ht7_, Option.bind_some, if_neg (show ¬ (1 : Int32) = 0 by decide), ra7_, Option.bind_some]
      rcases isName_rel x2 with ⟨a1, a2⟩ | ⟨t, ht6, et, a1, a2⟩
      · rw [a1, a2, Option.bind_some, Option.bind_some, if_pos (show (0 : Int32) = 0 from rfl), if_pos (show (0 : Int32) = 0 from rfl)]
        exact Or.inl ⟨rfl, _, _, rfl, rfl, Or.inr rfl⟩
      · rw [a1, a2, Option.bind_some, Option.bind_some, if_neg (show ¬ (1 : Int32) = 0 by decide), if_neg (show ¬ (1 : Int32) = 0 by decide), if_neg (show ¬ (1 : Int32) = 0 by decide)]
        rcases isName_rel x3 with ⟨b1, b2⟩ | ⟨a, ha6, eA, b1, b2⟩
        · rw [b1, b2, Option.bind_some, Option.bind_some, if_pos (show (0 : Int32) = 0 from rfl), if_pos (show (0 : Int32) = 0 from rfl)]
          exact Or.inl ⟨rfl, _, _, rfl, rfl, Or.inr rfl⟩
        · rw [b1, b2, Option.bind_some, Option.bind_some, if_neg (show ¬ (1 : Int32) = 0 by decide), if_neg (show ¬ (1 : Int32) = 0 by decide), cb7, name_b]
          rcases isName_rel x4 with ⟨c1, c2⟩ | ⟨b, hb6, eB, c1, c2⟩
          · rw [c1, c2, Option.bind_some, if_pos (show (0 : Int32) = 0 from rfl)]
            exact Or.inl ⟨rfl, _, _, rfl, rfl, Or.inr rfl⟩
          · rw [c1, c2, Option.bind_some, if_neg (show ¬ (1 : Int32) = 0 by decide)]
            exact Or.inr ⟨rfl, rfl, rfl, 1, 1, 1, Or.inr rfl, ht7_, ra7_, rb7_, Or.inl ⟨t, ht6, et, rfl, Or.inr ⟨a, ha6, eA, rfl, Or.inr (Or.inr ⟨Or.inr (Or.inr (Or.inr (Or.inr rfl))), rfl, b, hb6, eB⟩)⟩⟩⟩
    · show (mX8_canBe (nI N) zk 8 x2 x3 x4 = some 0 ∧ ∃ f c, mX7_canFollow (nI N) kd 8 = some f ∧ mX7_canBe 8 x2 x3 x4 = some c ∧ (f = 0 ∨ c = 0)) ∨ (mX8_canBe (nI N) zk 8 x2 x3 x4 = some 1 ∧ mX7_canFollow (nI N) kd 8 = some 1 ∧ mX7_canBe 8 x2 x3 x4 = some 1 ∧ ∃ ht ra rb, (rb = 0 ∨ rb = 1) ∧ NewS (opn zk N) 8 x2 x3 x4 ht ra rb)
      have hf : mX7_canFollow (nI N) kd 8 = some (if opn zk N = true then 0 else 1) := by
        unfold mX7_canFollow
        rw [if_pos (show (8 : Int32) = 8 from rfl), open_c hN, Option.bind_some, hop]
        unfold b2i
        by_cases q : opn zk N = true
        · rw [if_pos q, if_pos q, if_neg (show ¬ (1 : Int32) = 0 by decide)]
        · rw [if_neg q, if_neg q, if_pos (show (0 : Int32) = 0 from rfl)]
      unfold mX8_canBe mX7_canBe
      rw [hf, if_neg (show ¬ (8 : Int32) = 0 by decide), if_neg (show ¬ (8 : Int32) = 1 by decide), if_neg (show ¬ ((8 : Int32) = 2 ∨ (8 : Int32) = 3 ∨ (8 : Int32) = 4 ∨ (8 : Int32) = 6 ∨ (8 : Int32) = 7) by decide), if_neg (show ¬ (8 : Int32) = 5 by decide), if_pos (show (8 : Int32) = 8 from rfl), if_neg (show ¬ (8 : Int32) < 0 by decide), if_pos (show (8 : Int32) ≤ 9 by decide), ht8_, Option.bind_some, if_pos (show (0 : Int32) = 0 from rfl), ra8_, Option.bind_some, if_pos (show (0 : Int32) = 0 from rfl), cb8, lt64x, k1, k12, j1, j12, Option.bind_some, Option.bind_some, open_m hN, Option.bind_some]
      by_cases q : x4.toInt < 1 ∨ 12 < x4.toInt
      · rw [if_pos q, if_pos (show (0 : Int32) = 0 from rfl)]
        exact Or.inl ⟨rfl, _, _, rfl, rfl, Or.inr rfl⟩
      · rw [if_neg q, if_neg (show ¬ (1 : Int32) = 0 by decide)]
        obtain ⟨k, hk13, e4⟩ := of_rng (x := x4) (n := 13) (by omega) (by omega) (by decide)
        have hki := nI_toInt (n := k) (by omega)
        unfold b2i
        by_cases qo : opn zk N = true
        · rw [if_pos qo, if_pos qo, if_neg (show ¬ (1 : Int32) = 0 by decide)]
          exact Or.inl ⟨rfl, _, _, rfl, rfl, Or.inl rfl⟩
        · rw [if_neg qo, if_neg qo, if_pos (show (0 : Int32) = 0 from rfl)]
          exact Or.inr ⟨rfl, rfl, rfl, 0, 0, 0, Or.inl rfl, ht8_, ra8_, rb8_, Or.inr (Or.inl ⟨rfl, by simpa using qo, k, by rw [e4, hki] at q; omega, by omega, e4⟩)⟩
    · show (mX8_canBe (nI N) zk 9 x2 x3 x4 = some 0 ∧ ∃ f c, mX7_canFollow (nI N) kd 9 = some f ∧ mX7_canBe 9 x2 x3 x4 = some c ∧ (f = 0 ∨ c = 0)) ∨ (mX8_canBe (nI N) zk 9 x2 x3 x4 = some 1 ∧ mX7_canFollow (nI N) kd 9 = some 1 ∧ mX7_canBe 9 x2 x3 x4 = some 1 ∧ ∃ ht ra rb, (rb = 0 ∨ rb = 1) ∧ NewS (opn zk N) 9 x2 x3 x4 ht ra rb)
      have hf : mX7_canFollow (nI N) kd 9 = some (if opn zk N = true then 1 else 0) := by
        unfold mX7_canFollow
        rw [if_neg (show ¬ (9 : Int32) = 8 by decide), if_pos (show (9 : Int32) = 9 from rfl), open_c hN, Option.bind_some, hop]
        unfold b2i
        by_cases q : opn zk N = true
        · rw [if_pos q, if_neg (show ¬ (1 : Int32) = 0 by decide)]
        · rw [if_neg q, if_pos (show (0 : Int32) = 0 from rfl)]
      unfold mX8_canBe mX7_canBe
      rw [hf, if_neg (show ¬ (9 : Int32) = 0 by decide), if_neg (show ¬ (9 : Int32) = 1 by decide), if_neg (show ¬ ((9 : Int32) = 2 ∨ (9 : Int32) = 3 ∨ (9 : Int32) = 4 ∨ (9 : Int32) = 6 ∨ (9 : Int32) = 7) by decide), if_neg (show ¬ (9 : Int32) = 5 by decide), if_neg (show ¬ (9 : Int32) = 8 by decide), if_pos (show (9 : Int32) = 9 from rfl), if_neg (show ¬ (9 : Int32) < 0 by decide), if_pos (show (9 : Int32) ≤ 9 by decide), ht9_, Option.bind_some, if_pos (show (0 : Int32) = 0 from rfl), ra9_, Option.bind_some, if_pos (show (0 : Int32) = 0 from rfl), cb9, Option.bind_some, open_m hN, Option.bind_some]
      unfold b2i
      by_cases qo : opn zk N = true
      · rw [if_pos qo]
        exact Or.inr ⟨rfl, rfl, rfl, 0, 0, 0, Or.inl rfl, ht9_, ra9_, rb9_, Or.inr (Or.inr ⟨rfl, qo⟩)⟩
      · rw [if_neg qo]
        exact Or.inl ⟨rfl, _, _, rfl, rfl, Or.inl rfl⟩
theorem p_step {nr : Int32} {wd : Nat → Int32} {sg : Nat → Int32} {lw : Nat → Int64} {hg : Nat → Int64} {fr : Nat → Int32} {to : Nat → Int32} {sn : Int32} {pl : Int32} {kd : Nat → Int32} {tg : Nat → Int32} {sa : Nat → Int32} {sb : Nat → Int32} {bn : Nat → Int32} {mt : Nat → Int32} {pa : Nat → Int32} {ro : Int32} {tk : Int32} {ov : Nat → Int32} {sh : Nat → Int32} {tu : Nat → Int32} {rk : Int32} {cb : Int32} {rl : Nat → Int64} {rg : Nat → Int64} {tf : Int32} {kn : Int32} {tl : Nat → Int64} {th : Nat → Int64} {zn : Int32} {zm : Int32} {zw : Nat → Int32} {zs : Nat → Int32} {zfr : Nat → Int32} {zto : Nat → Int32} {zk : Nat → Int32} {zt : Nat → Int32} {za : Nat → Int32} {zb : Nat → Int32} {zq : Nat → Int32} (h : Inv nr wd sg lw hg fr to sn pl kd tg sa sb bn mt pa ro tk ov sh tu rk cb rl rg tf kn tl th zn zm zw zs zfr zto zk zt za zb zq) (x1 x2 x3 x4 : Int32) : ∃ (r : Int32) (sn' : Int32) (pl' : Int32) (kd' : Nat → Int32) (tg' : Nat → Int32) (sa' : Nat → Int32) (sb' : Nat → Int32) (bn' : Nat → Int32) (pa' : Nat → Int32) (tk' : Int32) (rk' : Int32) (kn' : Int32) (zn' : Int32) (zk' : Nat → Int32) (zt' : Nat → Int32) (za' : Nat → Int32) (zb' : Nat → Int32) (zq' : Nat → Int32), mX7_step sn pl kd tg sa sb bn pa tk rk kn x1 x2 x3 x4 = some (r, sn', pl', kd', tg', sa', sb', bn', pa', tk', rk', kn') ∧ mX8_step zn zk zt za zb zq x1 x2 x3 x4 = some (r, zn', zk', zt', za', zb', zq') ∧ Inv nr wd sg lw hg fr to sn' pl' kd' tg' sa' sb' bn' mt pa' ro tk' ov sh tu rk' cb rl rg tf kn' tl th zn' zm zw zs zfr zto zk' zt' za' zb' zq' := by
  have h0 := h
  obtain ⟨N, d0, d1, rfl, rfl, hN, hI, hS, hM, hP, hT, hR, hU⟩ := h
  have hN24 := hS.1
  have hkk : ∀ i, i < N → kd i = zk i := fun i hi => (hS.2.2 i hi).1
  unfold mX7_step mX8_step
  rcases can_rel hN24 hkk x1 x2 x3 x4 with ⟨m1, f, c, f1, c1, hfc⟩ | ⟨m1, f1, c1, ht, ra, rb, hrb, hns⟩
  · rw [m1, Option.bind_some, if_pos rfl]
    refine ⟨-1, _, _, _, _, _, _, _, _, _, _, _, _, _, _, _, _, _, ?_, rfl, h0⟩
    by_cases q : (24 : Int32) ≤ nI N
    · rw [if_pos q]
    · rw [if_neg q, f1, Option.bind_some]
      by_cases q2 : f = 0
      · rw [if_pos q2]
      · rw [if_neg q2, c1, Option.bind_some, if_pos (hfc.resolve_left q2)]
  · rw [m1, Option.bind_some, if_neg (show ¬ (1 : Int32) = 0 by decide)]
    by_cases q : N = 24
    · subst q
      rw [if_pos (show nI 24 = 24 from rfl), if_pos (show (24 : Int32) ≤ nI 24 by decide)]
      exact ⟨-1, _, _, _, _, _, _, _, _, _, _, _, _, _, _, _, _, _, rfl, rfl, h0⟩
    · have hlt : N < 24 := by omega
      have q24 : ¬ nI N = 24 := fun z => by
        have h1 : nI N = nI 24 := z
        rw [nI_eq (by omega) (by decide)] at h1
        exact q h1
      have hS' := hS.add hlt hns
      obtain ⟨pl', pa', e1, hP'⟩ := path_new hS' pl pa
      rw [if_neg q24, if_neg (gd_nI hlt (by decide)), if_neg (show ¬ (24 : Int32) ≤ nI N from nle_of (n := 24) hlt (by decide)), f1, Option.bind_some, if_neg (show ¬ (1 : Int32) = 0 by decide), c1, Option.bind_some, if_neg (show ¬ (1 : Int32) = 0 by decide), c_append hlt hns.1 hns.2.1 hns.2.2.1 hrb, e1, Option.bind_some, Option.bind_some, tn_nI (by omega), nI_1, nar0]
      refine ⟨_, _, _, _, _, _, _, _, _, _, _, _, _, _, _, _, _, _, rfl, rfl, N + 1, d0, d1, rfl, rfl, hN, hI, hS', ⟨fun s hs => ?_, fun s h1 h2 => ?_⟩, hP', Or.inl rfl, Or.inl rfl, Or.inl rfl⟩
      · unfold upd
        by_cases z : s = N
        · rw [if_pos z, z]; exact ⟨hM.2 N (Nat.le_refl _) hlt, Or.inl rfl⟩
        · rw [if_neg z]; exact hM.1 s (by omega)
      · exact hM.2 s (by omega) h2
theorem p_back {nr : Int32} {wd : Nat → Int32} {sg : Nat → Int32} {lw : Nat → Int64} {hg : Nat → Int64} {fr : Nat → Int32} {to : Nat → Int32} {sn : Int32} {pl : Int32} {kd : Nat → Int32} {tg : Nat → Int32} {sa : Nat → Int32} {sb : Nat → Int32} {bn : Nat → Int32} {mt : Nat → Int32} {pa : Nat → Int32} {ro : Int32} {tk : Int32} {ov : Nat → Int32} {sh : Nat → Int32} {tu : Nat → Int32} {rk : Int32} {cb : Int32} {rl : Nat → Int64} {rg : Nat → Int64} {tf : Int32} {kn : Int32} {tl : Nat → Int64} {th : Nat → Int64} {zn : Int32} {zm : Int32} {zw : Nat → Int32} {zs : Nat → Int32} {zfr : Nat → Int32} {zto : Nat → Int32} {zk : Nat → Int32} {zt : Nat → Int32} {za : Nat → Int32} {zb : Nat → Int32} {zq : Nat → Int32} (h : Inv nr wd sg lw hg fr to sn pl kd tg sa sb bn mt pa ro tk ov sh tu rk cb rl rg tf kn tl th zn zm zw zs zfr zto zk zt za zb zq) : ∃ (r : Int32) (sn' : Int32) (pl' : Int32) (mt' : Nat → Int32) (pa' : Nat → Int32) (tk' : Int32) (rk' : Int32) (kn' : Int32) (zn' : Int32), mX7_back sn pl kd sb mt pa tk rk kn = some (r, sn', pl', mt', pa', tk', rk', kn') ∧ mX8_back zn = some (r, zn') ∧ Inv nr wd sg lw hg fr to sn' pl' kd tg sa sb bn mt' pa' ro tk' ov sh tu rk' cb rl rg tf kn' tl th zn' zm zw zs zfr zto zk zt za zb zq := by
  have h0 := h
  obtain ⟨N, d0, d1, rfl, rfl, hN, hI, hS, hM, hP, hT, hR, hU⟩ := h
  have hN24 := hS.1
  unfold mX7_back mX8_back
  by_cases q : N = 0
  · subst q
    rw [if_pos (show nI 0 = 0 from rfl), if_pos (show nI 0 = 0 from rfl)]
    exact ⟨_, _, _, _, _, _, _, _, _, rfl, rfl, h0⟩
  · obtain ⟨M, rfl⟩ : ∃ M, N = M + 1 := ⟨N - 1, by omega⟩
    have hq : ¬ nI (M + 1) = 0 := nI_ne0 (by omega) (by omega)
    have hS' : StR M kd tg sa sb bn zk zt za zb := ⟨by omega, fun i hi => hS.2.1 i (by omega), fun s hs => hS.2.2 s (by omega)⟩
    obtain ⟨pl', pa', e1, hP'⟩ := path_new hS' pl pa
    have hd : mX4_dropLast (nI (M + 1)) pl kd sb mt pa = some (nI M, pl', upd mt M 0, pa') := by
      unfold mX4_dropLast
      rw [nI_pred, if_neg (gd_nI (show M < 24 by omega) (by decide)), e1, Option.bind_some, tn_nI (by omega), nar0]
    rw [if_neg hq, if_neg hq, hd, Option.bind_some, nI_pred]
    refine ⟨_, _, _, _, _, _, _, _, _, rfl, rfl, M, d0, d1, rfl, rfl, hN, hI, hS', ⟨fun s hs => ?_, fun s h1 h2 => ?_⟩, hP', Or.inl rfl, Or.inl rfl, Or.inl rfl⟩
    · show upd mt M 0 s = zq s ∧ (zq s = 0 ∨ zq s = 1)
      unfold upd
      rw [if_neg (by omega)]; exact hM.1 s (by omega)
    · show upd mt M 0 s = 0
      unfold upd
      by_cases z : s = M
      · rw [if_pos z]
      · rw [if_neg z]; exact hM.2 s (by omega) h2
