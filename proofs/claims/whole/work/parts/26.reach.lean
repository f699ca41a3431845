/-! ===== SPANS: class and model in step ===== -/
def clV (L U v : Int64) : Int64 := if (if v < U then v else U) < L then L else (if v < U then v else U)
theorem clV_b {L U v : Int64} (h : L.toInt ≤ U.toInt) : L.toInt ≤ (clV L U v).toInt ∧ (clV L U v).toInt ≤ U.toInt := by
  unfold clV
  by_cases h1 : v < U
  · rw [if_pos h1]
    rw [Int64.lt_iff_toInt_lt] at h1
    by_cases h2 : v < L
    · rw [if_pos h2]; omega
    · rw [if_neg h2]; rw [Int64.lt_iff_toInt_lt] at h2; omega
  · rw [if_neg h1]
    rw [Int64.lt_iff_toInt_lt] at h1
    by_cases h2 : U < L
    · rw [if_pos h2]; omega
    · rw [if_neg h2]; omega
theorem clV_m {L U v w : Int64} (h : L.toInt ≤ U.toInt) (hv : v.toInt ≤ w.toInt) : (clV L U v).toInt ≤ (clV L U w).toInt := by
  have b1 := clV_b (v := v) h
  have b2 := clV_b (v := w) h
  unfold clV at *
  by_cases h1 : v < U
  · rw [if_pos h1] at b1 ⊢
    rw [Int64.lt_iff_toInt_lt] at h1
    by_cases h2 : v < L
    · rw [if_pos h2]; exact b2.1
    · rw [if_neg h2] at b1 ⊢
      rw [Int64.lt_iff_toInt_lt] at h2
      by_cases h3 : w < U
      · rw [if_pos h3]
        by_cases h4 : w < L
        · rw [Int64.lt_iff_toInt_lt] at h4; omega
        · rw [if_neg h4]; exact hv
      · rw [if_neg h3]
        by_cases h4 : U < L
        · rw [Int64.lt_iff_toInt_lt] at h4; omega
        · rw [if_neg h4]; omega
  · have h1' := h1
    rw [Int64.lt_iff_toInt_lt] at h1'
    have h3 : ¬ w < U := fun z => by rw [Int64.lt_iff_toInt_lt] at z; omega
    rw [if_neg h1, if_neg h3]
    exact Int.le_refl _
/-- out of the range at one end or the other -/
def outS (L U lo hi : Int64) : Prop := (lo < L ∨ U < lo) ∨ (hi < L ∨ U < hi)
theorem c_fits {t : Nat} (ht : t < 6) (lw hg : Nat → Int64) (lo hi : Int64) : (outS (lw t) (hg t) lo hi → mX2_fits lw hg lo hi (nI t) = some 0) ∧ (¬ outS (lw t) (hg t) lo hi → mX2_fits lw hg lo hi (nI t) = some 1) := by
  unfold mX2_fits outS
  rw [c_holds ht, Option.bind_some, c_holds ht, Option.bind_some]
  by_cases h1 : lo < lw t ∨ hg t < lo
  · rw [if_pos h1, if_pos rfl]; exact ⟨fun _ => rfl, fun z => absurd (Or.inl h1) z⟩
  · rw [if_neg h1, if_neg (by decide)]
    by_cases h2 : hi < lw t ∨ hg t < hi
    · rw [if_pos h2, if_pos rfl]; exact ⟨fun _ => rfl, fun z => absurd (Or.inr h2) z⟩
    · rw [if_neg h2, if_neg (by decide)]; exact ⟨fun z => absurd z (fun y => y.elim h1 h2), fun _ => rfl⟩
theorem ends_rel {nr : Int32} {wd sg : Nat → Int32} {lw hg : Nat → Int64} {zm : Int32} {zw zs : Nat → Int32} (hN : NmR nr wd sg lw hg zm zw zs) {t : Nat} (ht : t < 6) {lo hi : Int64} (hlh : lo.toInt ≤ hi.toInt) (rl rg zle zmo : Nat → Int64) :
    ∃ (o : Int32) (l' h' : Int64), (o = 0 ∨ o = 1) ∧ mX8_ends zm zw zs zle zmo (nI t) lo hi = some (o, vp_updL zle t l', vp_updL zmo t h') ∧ mX2_fits lw hg lo hi (nI t) = some (if o = 0 then 1 else 0) ∧ mX2_settle nr lw hg lo hi rl rg (nI t) = some (vp_updL rl t l', vp_updL rg t h') ∧ -2147483648 ≤ l'.toInt ∧ l'.toInt ≤ h'.toInt ∧ h'.toInt ≤ 2147483648 := by
  have hN' := hN
  obtain ⟨rfl, hm, hN6⟩ := hN'
  obtain ⟨ew, es, hz, ⟨k, k2, k3, ek⟩, el, eh⟩ := hN6 t ht
  obtain ⟨L, U, M, e1, e2, e3, r1, r2, r3, r4, r5, r6, r7⟩ := rng k2 k3 (zs t)
  rw [← ek] at e1 e2
  have gt := gd_nI ht (show 6 < 2147483648 by decide)
  obtain ⟨f1, f2⟩ := c_fits ht lw hg lo hi
  have hg1 := m_goes ht zw zs lo
  have hg2 := m_goes ht zw zs hi
  have hLU : (lowS (zw t) (zs t)).toInt ≤ (highS (zw t) (zs t)).toInt := by rw [e1, e2]; omega
  rw [el, eh] at f1 f2
  by_cases ho : outS (lowS (zw t) (zs t)) (highS (zw t) (zs t)) lo hi
  · have hends : mX8_ends nr zw zs zle zmo (nI t) lo hi = mX8_ends_L24 nr zw zs zle zmo (nI t) lo hi 1 := by
      unfold mX8_ends
      rw [hg1, Option.bind_some, hg2]
      by_cases q : lo < lowS (zw t) (zs t) ∨ highS (zw t) (zs t) < lo
      · rw [if_pos q, if_neg (by decide)]
      · rw [if_neg q, if_pos rfl, if_pos (ho.resolve_left q), Option.bind_some, if_neg (by decide)]
    have hset : mX2_settle nr lw hg lo hi rl rg (nI t) = if nr = 0 then some (vp_updL rl t (lw t), vp_updL rg t (hg t)) else some (vp_updL rl t (clV (lw t) (hg t) lo), vp_updL rg t (clV (lw t) (hg t) hi)) := by
      unfold mX2_settle
      rw [f1 ho, Option.bind_some, if_pos rfl]
      by_cases q : nr = 0
      · rw [if_pos q, if_pos q, if_neg gt, tn_nI (by omega)]
      · rw [if_neg q, if_neg q, c_nearest ht, Option.bind_some, if_neg gt, c_nearest ht, Option.bind_some, tn_nI (by omega)]
        rfl
    rcases hm with h0 | h0
    · refine ⟨1, lowS (zw t) (zs t), highS (zw t) (zs t), Or.inr rfl, ?_, f1 ho, ?_, by rw [e1]; omega, hLU, by rw [e2]; omega⟩
      · rw [hends]
        unfold mX8_ends_L24
        rw [if_neg (by decide), if_pos h0, m_low ht, Option.bind_some, if_neg gt, m_high ht, Option.bind_some, if_neg (by decide), tn_nI (by omega)]
      · rw [hset, if_pos h0, el, eh]
    · have n0 : ¬ nr = 0 := by rw [h0]; decide
      have hput : ∀ v, mX8_put nr zw zs (nI t) v = some (clV (lowS (zw t) (zs t)) (highS (zw t) (zs t)) v) := by
        intro v
        obtain ⟨r, a1, a2⟩ := put_rel hN ht v
        rw [c_fitted ht, if_neg n0, el, eh] at a1
        rw [a2, ← a1]
        rfl
      have b1 := clV_b (v := lo) hLU
      have b2 := clV_b (v := hi) hLU
      refine ⟨1, clV (lowS (zw t) (zs t)) (highS (zw t) (zs t)) lo, clV (lowS (zw t) (zs t)) (highS (zw t) (zs t)) hi, Or.inr rfl, ?_, f1 ho, ?_, by omega, clV_m hLU hlh, by omega⟩
      · rw [hends]
        unfold mX8_ends_L24
        rw [if_neg (by decide), if_neg n0, hput, Option.bind_some, if_neg gt, hput, Option.bind_some, if_neg (by decide), tn_nI (by omega)]
      · rw [hset, if_neg n0, el, eh]
  · have q1 : ¬ (lo < lowS (zw t) (zs t) ∨ highS (zw t) (zs t) < lo) := fun z => ho (Or.inl z)
    have q2 : ¬ (hi < lowS (zw t) (zs t) ∨ highS (zw t) (zs t) < hi) := fun z => ho (Or.inr z)
    have i1 : L ≤ lo.toInt := by
      have : ¬ lo < lowS (zw t) (zs t) := fun z => q1 (Or.inl z)
      rw [Int64.lt_iff_toInt_lt, e1] at this; omega
    have i2 : hi.toInt ≤ U := by
      have : ¬ highS (zw t) (zs t) < hi := fun z => q2 (Or.inr z)
      rw [Int64.lt_iff_toInt_lt, e2] at this; omega
    refine ⟨0, lo, hi, Or.inl rfl, ?_, f2 ho, ?_, by omega, hlh, by omega⟩
    · unfold mX8_ends
      rw [hg1, Option.bind_some, hg2, if_neg q1, if_pos rfl, if_neg q2, Option.bind_some, if_pos rfl]
      unfold mX8_ends_L24
      rw [if_pos rfl, if_neg gt, if_neg (by decide), tn_nI (by omega)]
    · unfold mX2_settle
      rw [f2 ho, Option.bind_some, if_neg (by decide), if_neg gt, tn_nI (by omega)]
/-- the ends of both sides -/
def EnR (rl rg zle zmo : Nat → Int64) : Prop := ∀ n, n < 6 → rl n = zle n ∧ rg n = zmo n ∧ -2147483648 ≤ (zle n).toInt ∧ (zle n).toInt ≤ (zmo n).toInt ∧ (zmo n).toInt ≤ 2147483648
theorem EnR.up {rl rg zle zmo : Nat → Int64} (h : EnR rl rg zle zmo) {t : Nat} {l' h' : Int64} (h1 : -2147483648 ≤ l'.toInt) (h2 : l'.toInt ≤ h'.toInt) (h3 : h'.toInt ≤ 2147483648) : EnR (vp_updL rl t l') (vp_updL rg t h') (vp_updL zle t l') (vp_updL zmo t h') := by
  intro n hn
  unfold vp_updL
  by_cases q : n = t
  · rw [if_pos q, if_pos q, if_pos q, if_pos q]; exact ⟨rfl, rfl, h1, h2, h3⟩
  · rw [if_neg q, if_neg q, if_neg q, if_neg q]; exact h n hn
theorem ends_wrap {x : Option (Int32 × (Nat → Int64) × (Nat → Int64))} {o : Int32} {a b : Nat → Int64} (h : x = some (o, a, b)) (ho : o = 0 ∨ o = 1) : x.bind (fun u => if ¬ (u.1 = 0 ∨ u.1 = 1) then none else some (u.1, u.2.1, u.2.2)) = some (o, a, b) := by
  rw [h, Option.bind_some, if_neg (fun z => z ho)]
def mn4 (p q r t : Int64) : Int64 := if (if t < r then t else r) < (if q < p then q else p) then (if t < r then t else r) else (if q < p then q else p)
def mx4 (p q r t : Int64) : Int64 := if (if t < r then r else t) < (if q < p then p else q) then (if q < p then p else q) else (if t < r then r else t)
theorem mn_mx (p q r t : Int64) : (mn4 p q r t).toInt ≤ (mx4 p q r t).toInt := by
  have e1 : (mn4 p q r t).toInt ≤ p.toInt := by
    unfold mn4
    by_cases h : q < p
    · rw [if_pos h]
      rw [Int64.lt_iff_toInt_lt] at h
      by_cases h2 : (if t < r then t else r) < q
      · rw [if_pos h2]; rw [Int64.lt_iff_toInt_lt] at h2; omega
      · rw [if_neg h2]; omega
    · rw [if_neg h]
      by_cases h2 : (if t < r then t else r) < p
      · rw [if_pos h2]; rw [Int64.lt_iff_toInt_lt] at h2; omega
      · rw [if_neg h2]; omega
  have e2 : p.toInt ≤ (mx4 p q r t).toInt := by
    unfold mx4
    by_cases h : q < p
    · rw [if_pos h]
      by_cases h2 : (if t < r then r else t) < p
      · rw [if_pos h2]; omega
      · rw [if_neg h2]; rw [Int64.lt_iff_toInt_lt] at h2; omega
    · rw [if_neg h]
      rw [Int64.lt_iff_toInt_lt] at h
      by_cases h2 : (if t < r then r else t) < q
      · rw [if_pos h2]; omega
      · rw [if_neg h2]; rw [Int64.lt_iff_toInt_lt] at h2; omega
  omega
/-- the ends that a step makes: the same on both sides, in order -/
theorem reckon_rel {kd tg sa sb bn zk zt za zb : Nat → Int32} {sg zs : Nat → Int32} (hsg : ∀ n, n < 6 → sg n = zs n) {s : Nat} (hs : s < 24) (hp : SpR kd tg sa sb bn zk zt za zb s) {rl rg zle zmo : Nat → Int64} (hE : EnR rl rg zle zmo) (rlo rhi : Int64) (zm : Int32) (zw : Nat → Int32) :
    ∃ lo hi : Int64, mX2_reckon sg kd sa sb bn rlo rhi rl rg (nI s) = some (lo, hi) ∧ lo.toInt ≤ hi.toInt ∧ ∀ (o : Int32) (a b : Nat → Int64), mX8_ends zm zw zs zle zmo (zt s) lo hi = some (o, a, b) → (o = 0 ∨ o = 1) → mX8_goes zm zw zs zk zt za zb zle zmo (nI s) = some (o, a, b) := by
  obtain ⟨ek, eb, et, -, ⟨a, ha, ea⟩, hc⟩ := hp
  have hg := gd_nI hs (show 24 < 2147483648 by decide)
  have htn := tn_nI (show s < 2147483648 by omega)
  have hg2 := hg
  rw [htn] at hg2
  have ga := gd_nI ha (show 6 < 2147483648 by decide)
  have ta := tn_nI (show a < 2147483648 by omega)
  obtain ⟨al, ag, a1, a2, a3⟩ := hE a ha
  rcases hc with ⟨k0, b0⟩ | ⟨k1, b0, eza⟩ | ⟨k5, b0, eza, k, hk, ezb⟩ | ⟨kk, b1, eza, b, hb, ezb⟩
  · refine ⟨(zb s).toInt64, (zb s).toInt64, ?_, Int.le_refl _, fun o x y h ho => ?_⟩
    · unfold mX2_reckon
      rw [c_valA hs ea ha, Option.bind_some, c_valB0 hs b0, Option.bind_some, c_valA hs ea ha, Option.bind_some, c_valB0 hs b0, Option.bind_some, if_neg hg, htn, ek, k0, if_neg (by decide), if_neg (by decide), if_neg (by decide), made0, Option.bind_some, made0, Option.bind_some, eb]
    · unfold mX8_goes
      rw [if_neg hg, htn, k0, if_pos rfl]
      exact ends_wrap h ho
  · refine ⟨zle a, zmo a, ?_, a2, fun o x y h ho => ?_⟩
    · unfold mX2_reckon
      rw [c_valA hs ea ha, Option.bind_some, c_valB0 hs b0, Option.bind_some, c_valA hs ea ha, Option.bind_some, c_valB0 hs b0, Option.bind_some, if_neg hg, htn, ek, k1, if_neg (by decide), if_neg (by decide), if_neg (by decide), made1, Option.bind_some, made1, Option.bind_some, al, ag]
    · unfold mX8_goes
      rw [if_neg hg, htn, k1, if_neg (by decide), if_pos rfl, eza, ea, if_neg ga, ta]
      exact ends_wrap h ho
  · have hk31 : k ≤ 31 := by omega
    have hpk : ((1 : Int64) <<< ((zb s).toInt64 &&& 63)).toInt = ((2 ^ k : Nat) : Int) := by rw [ezb, pw1 (by omega), lNp hk31]
    have hp0 : (0 : Int) ≤ ((2 ^ k : Nat) : Int) := Int.natCast_nonneg _
    have hp12 : ((2 ^ k : Nat) : Int) ≤ 4096 := by
      have : 2 ^ k ≤ 2 ^ 12 := Nat.pow_le_pow_right (by decide) hk
      omega
    have hmul : ∀ v : Int64, -2147483648 ≤ v.toInt → v.toInt ≤ 2147483648 → (v * ((1 : Int64) <<< ((zb s).toInt64 &&& 63))).toInt = v.toInt * ((2 ^ k : Nat) : Int) := by
      intro v h1 h2
      have l1 : -2147483648 * 4096 ≤ v.toInt * ((2 ^ k : Nat) : Int) := by
        have x1 : -2147483648 * ((2 ^ k : Nat) : Int) ≤ v.toInt * ((2 ^ k : Nat) : Int) := Int.mul_le_mul_of_nonneg_right h1 hp0
        omega
      have l2 : v.toInt * ((2 ^ k : Nat) : Int) ≤ 2147483648 * 4096 := by
        have x1 : v.toInt * ((2 ^ k : Nat) : Int) ≤ 2147483648 * ((2 ^ k : Nat) : Int) := Int.mul_le_mul_of_nonneg_right h2 hp0
        omega
      rw [Kit.i64_mul (by rw [hpk]; omega) (by rw [hpk]; omega), hpk]
    refine ⟨zle a * ((1 : Int64) <<< ((zb s).toInt64 &&& 63)), zmo a * ((1 : Int64) <<< ((zb s).toInt64 &&& 63)), ?_, ?_, fun o x y h ho => ?_⟩
    · unfold mX2_reckon
      rw [c_valA hs ea ha, Option.bind_some, c_valB0 hs b0, Option.bind_some, c_valA hs ea ha, Option.bind_some, c_valB0 hs b0, Option.bind_some, if_neg hg, htn, ek, k5, if_neg (by decide), if_neg (by decide), if_neg (by decide), made5, Option.bind_some, made5, Option.bind_some, eb, ezb, shift_eq _ (by omega), shift_eq _ (by omega), al, ag]
    · rw [hmul _ a1 (by omega), hmul _ (by omega) a3]
      exact Int.mul_le_mul_of_nonneg_right a2 hp0
    · unfold mX8_goes
      rw [if_neg hg, htn, k5, if_neg (by decide), if_neg (by decide), if_neg (by decide), if_neg (by decide), if_neg (by decide), if_pos rfl, eza, ea, if_neg ga, ta]
      exact ends_wrap h ho
  · have eb' : sb s = nI b := eb.trans ezb
    have gb := gd_nI hb (show 6 < 2147483648 by decide)
    have tb' := tn_nI (show b < 2147483648 by omega)
    obtain ⟨bl, bg, b1', b2, b3⟩ := hE b hb
    rcases kk with k2 | k2 | k2 | k2 | k2
    · refine ⟨zle a + zle b, zmo a + zmo b, ?_, ?_, fun o x y h ho => ?_⟩
      · unfold mX2_reckon
        rw [c_valA hs ea ha, Option.bind_some, c_valB1 hs b1 eb' hb, Option.bind_some, c_valA hs ea ha, Option.bind_some, c_valB1 hs b1 eb' hb, Option.bind_some, if_neg hg, htn, ek, k2, if_neg (by decide), if_neg (by decide), if_neg (by decide), made2, Option.bind_some, made2, Option.bind_some, al, ag, bl, bg]
      · rw [Kit.i64_add (by omega) (by omega), Kit.i64_add (by omega) (by omega)]; omega
      · unfold mX8_goes
        rw [if_neg hg, htn, k2, if_neg (by decide), if_neg (by decide), if_pos rfl, eza, ea, ezb, if_neg ga, if_neg gb, ta, tb']
        exact ends_wrap h ho
    · refine ⟨zle a - zmo b, zmo a - zle b, ?_, ?_, fun o x y h ho => ?_⟩
      · unfold mX2_reckon
        rw [c_valA hs ea ha, Option.bind_some, c_valB1 hs b1 eb' hb, Option.bind_some, c_valA hs ea ha, Option.bind_some, c_valB1 hs b1 eb' hb, Option.bind_some, if_neg hg, htn, ek, k2, if_pos rfl, al, ag, bl, bg]
      · rw [Kit.i64_sub (by omega) (by omega), Kit.i64_sub (by omega) (by omega)]; omega
      · unfold mX8_goes
        rw [if_neg hg, htn, k2, if_neg (by decide), if_neg (by decide), if_neg (by decide), if_pos rfl, eza, ea, ezb, if_neg ga, if_neg gb, ta, tb']
        exact ends_wrap h ho
    · refine ⟨mn4 (zle a * zle b) (zle a * zmo b) (zmo a * zle b) (zmo a * zmo b), mx4 (zle a * zle b) (zle a * zmo b) (zmo a * zle b) (zmo a * zmo b), ?_, mn_mx _ _ _ _, fun o x y h ho => ?_⟩
      · unfold mX2_reckon
        rw [c_valA hs ea ha, Option.bind_some, c_valB1 hs b1 eb' hb, Option.bind_some, c_valA hs ea ha, Option.bind_some, c_valB1 hs b1 eb' hb, Option.bind_some, if_neg hg, htn, ek, k2, if_neg (by decide), if_pos rfl, al, ag, bl, bg]
        rfl
      · unfold mX8_goes mX8_products
        rw [if_neg hg, htn, k2, if_neg (by decide), if_neg (by decide), if_neg (by decide), if_neg (by decide), if_pos rfl, if_neg hg2, eza, ea, ezb, if_neg ga, if_neg gb, ta, tb']
        exact ends_wrap (ends_wrap h ho) ho
    · refine ⟨if zle b < zle a then zle b else zle a, if zmo b < zmo a then zmo b else zmo a, ?_, ?_, fun o x y h ho => ?_⟩
      · unfold mX2_reckon
        rw [c_valA hs ea ha, Option.bind_some, c_valB1 hs b1 eb' hb, Option.bind_some, c_valA hs ea ha, Option.bind_some, c_valB1 hs b1 eb' hb, Option.bind_some, if_neg hg, htn, ek, k2, if_neg (by decide), if_neg (by decide), if_neg (by decide), made6, Option.bind_some, made6, Option.bind_some, al, ag, bl, bg]
      · by_cases q1 : zle b < zle a
        · rw [if_pos q1]
          rw [Int64.lt_iff_toInt_lt] at q1
          by_cases q2 : zmo b < zmo a
          · rw [if_pos q2]; exact b2
          · rw [if_neg q2]; rw [Int64.lt_iff_toInt_lt] at q2; omega
        · rw [if_neg q1]
          rw [Int64.lt_iff_toInt_lt] at q1
          by_cases q2 : zmo b < zmo a
          · rw [if_pos q2]; omega
          · rw [if_neg q2]; exact a2
      · unfold mX8_goes
        rw [if_neg hg, htn, k2, if_neg (by decide), if_neg (by decide), if_neg (by decide), if_neg (by decide), if_neg (by decide), if_neg (by decide), if_pos rfl, eza, ea, ezb, if_neg ga, if_neg gb, ta, tb']
        exact ends_wrap h ho
    · have hgo : ∀ (z : Option (Int32 × (Nat → Int64) × (Nat → Int64))) (o : Int32) (x y : Nat → Int64), mX8_belows zm zw zs zt za zb zle zmo (nI s) = some (o, x, y) → (o = 0 ∨ o = 1) → mX8_goes zm zw zs zk zt za zb zle zmo (nI s) = some (o, x, y) := by
        intro z o x y h ho
        unfold mX8_goes
        rw [if_neg hg, htn, k2, if_neg (by decide), if_neg (by decide), if_neg (by decide), if_neg (by decide), if_neg (by decide), if_neg (by decide), if_neg (by decide)]
        exact ends_wrap h ho
      have hre : ∀ lo hi : Int64, (if zs a = zs b then (if zle b ≤ zmo a then (if zle a < zmo b then some ((0 : Int64), (1 : Int64)) else some (0, 0)) else (if zle a < zmo b then some (1, 1) else some (1, 0))) else some (0, 1)) = some (lo, hi) → mX2_reckon sg kd sa sb bn rlo rhi rl rg (nI s) = some (lo, hi) := by
        intro lo hi h
        unfold mX2_reckon
        rw [c_valA hs ea ha, Option.bind_some, c_valB1 hs b1 eb' hb, Option.bind_some, c_valA hs ea ha, Option.bind_some, c_valB1 hs b1 eb' hb, Option.bind_some, if_neg hg, htn, ek, k2, if_neg (by decide), if_neg (by decide), if_pos rfl, ea, eb', c_alike ha hb, hsg a ha, hsg b hb, Option.bind_some, al, ag, bl, bg]
        by_cases q : zs a = zs b
        · rw [if_pos q] at h ⊢
          rw [if_neg (show ¬ (1 : Int32) = 0 by decide), if_neg (show ¬ (1 : Int32) = 0 by decide), if_neg (show ¬ (1 : Int32) = 0 by decide)]
          exact h
        · rw [if_neg q] at h ⊢
          rw [if_pos rfl, if_pos rfl]
          exact h
      by_cases q : zs a = zs b
      · have hb0 : mX8_belows zm zw zs zt za zb zle zmo (nI s) = mX8_belows_L30 zm zw zs zt za zb zle zmo (nI s) 1 := by
          unfold mX8_belows
          rw [if_neg hg, htn, eza, ea, ezb, if_neg ga, if_neg gb, ta, tb', if_pos q]
        by_cases q1 : zle b ≤ zmo a
        · have hb1 : mX8_belows_L30 zm zw zs zt za zb zle zmo (nI s) 1 = mX8_belows_L74 zm zw zs zt za zb zle zmo (nI s) 1 := by
            unfold mX8_belows_L30
            rw [if_neg (by decide), if_neg hg, htn, eza, ea, ezb, if_neg ga, if_neg gb, ta, tb', if_pos q1]
          by_cases q2 : zle a < zmo b
          · refine ⟨0, 1, hre _ _ (by rw [if_pos q, if_pos q1, if_pos q2]), by decide, fun o x y h ho => hgo none o x y ?_ ho⟩
            rw [hb0, hb1]
            unfold mX8_belows_L74
            rw [if_neg (by decide), if_neg hg, htn, eza, ea, ezb, if_neg ga, if_neg gb, ta, tb', if_pos q2]
            exact ends_wrap h ho
          · refine ⟨0, 0, hre _ _ (by rw [if_pos q, if_pos q1, if_neg q2]), by decide, fun o x y h ho => hgo none o x y ?_ ho⟩
            rw [hb0, hb1]
            unfold mX8_belows_L74
            rw [if_neg (by decide), if_neg hg, htn, eza, ea, ezb, if_neg ga, if_neg gb, ta, tb', if_neg q2]
            exact ends_wrap h ho
        · have q2 : zle a < zmo b := by
            rw [Int64.le_iff_toInt_le] at q1
            rw [Int64.lt_iff_toInt_lt]; omega
          refine ⟨1, 1, hre _ _ (by rw [if_pos q, if_neg q1, if_pos q2]), by decide, fun o x y h ho => hgo none o x y ?_ ho⟩
          rw [hb0]
          unfold mX8_belows_L30
          rw [if_neg (by decide), if_neg hg, htn, eza, ea, ezb, if_neg ga, if_neg gb, ta, tb', if_neg q1]
          exact ends_wrap h ho
      · refine ⟨0, 1, hre _ _ (by rw [if_neg q]), by decide, fun o x y h ho => hgo none o x y ?_ ho⟩
        unfold mX8_belows
        rw [if_neg hg, htn, eza, ea, ezb, if_neg ga, if_neg gb, ta, tb', if_neg q]
        unfold mX8_belows_L30
        rw [if_pos rfl]
        unfold mX8_belows_L74
        rw [if_pos rfl, if_neg hg, htn]
        exact ends_wrap h ho
def RcR (N : Nat) (cb : Int32) (rl rg : Nat → Int64) (zle zmo : Nat → Int64) (zc : Nat → Int32) : Prop := EnR rl rg zle zmo ∧ ∀ s, s < N → zc s = if bt cb s = true then 1 else 0
theorem reach_loop {nr : Int32} {wd sg : Nat → Int32} {lw hg : Nat → Int64} {zm : Int32} {zw zs : Nat → Int32} (hN : NmR nr wd sg lw hg zm zw zs) {kd tg sa sb bn zk zt za zb pa zl : Nat → Int32} {N len : Nat} {pl zj : Int32} (hP : PaR N len pl pa zj zl kd tg sa sb bn zk zt za zb) (fr to zfr zto : Nat → Int32) (zn rk : Int32) :
    ∀ (n i : Nat) (cb : Int32) (rlo rhi : Int64) (rl rg zle zmo : Nat → Int64) (zc : Nat → Int32), i ≤ len → len - i < n → RcR N cb rl rg zle zmo zc →
      ∃ (cb' : Int32) (rlo' rhi' : Int64) (rl' rg' zle' zmo' : Nat → Int64) (zc' : Nat → Int32), mX2_learn_L82 nr sg lw hg fr to pl kd tg sa sb bn pa n rk cb rlo rhi rl rg (nI i) = some (rk, cb', rlo', rhi', rl', rg') ∧ mX8_spans_L90 zn zm zw zs zfr zto zk zt za zb n zj zl zle zmo zc (nI i) = some (zj, zl, zle', zmo', zc') ∧ RcR N cb' rl' rg' zle' zmo' zc' := by
  obtain ⟨hN24, hl, rfl, rfl, hpath⟩ := hP
  have hsg : ∀ n, n < 6 → sg n = zs n := fun n hn => (hN.2.2 n hn).2.1
  intro n
  induction n with
  | zero => intro i cb rlo rhi rl rg zle zmo zc h1 h2; omega
  | succ n ih =>
    intro i cb rlo rhi rl rg zle zmo zc hi hn hR
    rw [mX2_learn_L82, mX8_spans_L90]
    by_cases he : i = len
    · subst he
      rw [if_pos (le_of (Nat.le_refl _) (by omega)), if_pos (le_of (Nat.le_refl _) (by omega))]
      exact ⟨_, _, _, _, _, _, _, _, rfl, rfl, hR⟩
    · have hlt : i < len := by omega
      obtain ⟨s, hsN, epa, ezl, hsp⟩ := hpath i hlt
      have hs : s < 24 := by omega
      have hg24 := gd_nI hs (show 24 < 2147483648 by decide)
      obtain ⟨-, -, ett, ⟨t, ht, et⟩, -, -⟩ := id hsp
      obtain ⟨hE, hc⟩ := hR
      obtain ⟨lo, hi', e1, hlh, e2⟩ := reckon_rel hsg hs hsp hE rlo rhi zm zw
      obtain ⟨o, l', h', ho, f1, f2, f3, b1, b2, b3⟩ := ends_rel hN ht hlh rl rg zle zmo
      rw [← ett, et] at e2
      have e3 := e2 o _ _ f1 ho
      have hperf : mX2_perform nr sg lw hg kd tg sa sb bn cb rlo rhi rl rg (nI s) = some (if o = 0 then cb else cb ||| ((1 : Int32) <<< (nI s &&& 31)), lo, hi', vp_updL rl t l', vp_updL rg t h') := by
        unfold mX2_perform
        rw [if_neg hg24, e1, Option.bind_some, tn_nI (by omega), et, f2, Option.bind_some, f3]
        rcases ho with q | q
        · rw [if_pos q, if_pos q, if_neg (by decide)]; rfl
        · have q0 : ¬ o = 0 := by rw [q]; decide
          rw [if_neg q0, if_neg q0, if_pos rfl]; rfl
      have hE' := hE.up (t := t) b1 b2 b3
      rw [if_neg (nle_of hlt (by omega)), if_neg (nle_of hlt (by omega)), if_neg (gd_nI (show i < 288 by omega) (by decide)), if_neg (gd_nI (show i < 288 by omega) (by decide)), tn_nI (by omega), epa, ezl, hperf, Option.bind_some, e3, Option.bind_some, tn_nI (by omega), nI_1, nar0, nar1]
      have hg24' := hg24
      rw [tn_nI (by omega)] at hg24'
      rcases ho with q | q
      · have hcc : ∀ j, j < N → (upd zc s (zc s)) j = if bt cb j = true then 1 else 0 := by
          intro j hj
          unfold upd
          by_cases z : j = s
          · rw [if_pos z, ← z]; exact hc j hj
          · rw [if_neg z]; exact hc j hj
        obtain ⟨cb', rlo', rhi', rl', rg', zle', zmo', zc', g1, g2, g3⟩ := ih (i + 1) cb lo hi' _ _ _ _ _ (by omega) (by omega) ⟨hE', hcc⟩
        refine ⟨cb', rlo', rhi', rl', rg', zle', zmo', zc', ?_, ?_, g3⟩
        · rw [if_pos q]; exact g1
        · rw [if_pos q, if_neg hg24']
          by_cases z : zc s = 0
          · rw [if_pos z]; rw [z] at g2; exact g2
          · have z1 : zc s = 1 := by
              have := hc s hsN
              by_cases y : bt cb s = true
              · rw [if_pos y] at this; exact this
              · rw [if_neg y] at this; exact absurd this z
            rw [if_neg z]; rw [z1] at g2; exact g2
      · have q0 : ¬ o = 0 := by rw [q]; decide
        have hcc : ∀ j, j < N → (upd zc s 1) j = if bt (cb ||| ((1 : Int32) <<< (nI s &&& 31))) j = true then 1 else 0 := by
          intro j hj
          rw [orb cb (by omega) (by omega)]
          unfold upd
          by_cases z : j = s
          · subst z; simp
          · have z' : ¬ s = j := fun y => z y.symm
            rw [if_neg z, hc j hj]; simp [z']
        obtain ⟨cb', rlo', rhi', rl', rg', zle', zmo', zc', g1, g2, g3⟩ := ih (i + 1) (cb ||| ((1 : Int32) <<< (nI s &&& 31))) lo hi' _ _ _ _ _ (by omega) (by omega) ⟨hE', hcc⟩
        refine ⟨cb', rlo', rhi', rl', rg', zle', zmo', zc', ?_, ?_, g3⟩
        · rw [if_neg q0]; exact g1
        · rw [if_neg q0, if_neg hg24']; exact g2
theorem m_S6 (zn zm : Int32) (zw zs zfr zto zk zt za zb : Nat → Int32) (zj : Int32) (zl : Nat → Int32) (zle zmo : Nat → Int64) (zc : Nat → Int32) : ∀ (n i : Nat), i ≤ 6 → 6 - i < n → mX8_spans_L6 zn zm zw zs zfr zto zk zt za zb n zj zl (flL i 0 zle) (flL i 0 zmo) zc (nI i) = mX8_spans_L34 zn zm zw zs zfr zto zk zt za zb FU zj zl (flL 6 0 zle) (flL 6 0 zmo) zc 0 := by
  intro n
  induction n with
  | zero => intro i h1 h2; omega
  | succ n ih =>
    intro i hi hn
    rw [mX8_spans_L6]
    by_cases he : i = 6
    · subst he
      rw [if_pos (show (6 : Int32) ≤ nI 6 by decide)]
    · have hlt : i < 6 := by omega
      rw [if_neg (show ¬ (6 : Int32) ≤ nI i from nle_of (n := 6) hlt (by decide)), if_neg (gd_nI hlt (by decide)), tn_nI (by omega), flL_s, flL_s, nI_1]
      exact ih (i + 1) (by omega) (by omega)
theorem m_S34 {N : Nat} (hN : N ≤ 24) (zm : Int32) (zw zs zfr zto zk zt za zb : Nat → Int32) (zj : Int32) (zl : Nat → Int32) (zle zmo : Nat → Int64) (zc : Nat → Int32) : ∀ (n i : Nat), i ≤ N → N - i < n → mX8_spans_L34 (nI N) zm zw zs zfr zto zk zt za zb n zj zl zle zmo (flI i 0 zc) (nI i) = mX8_spans_L57 (nI N) zm zw zs zfr zto zk zt za zb FU zj zl zle zmo (flI N 0 zc) 0 := by
  intro n
  induction n with
  | zero => intro i h1 h2; omega
  | succ n ih =>
    intro i hi hn
    rw [mX8_spans_L34]
    by_cases he : i = N
    · subst he
      rw [if_pos (le_of (Nat.le_refl _) (by omega))]
    · have hlt : i < N := by omega
      rw [if_neg (nle_of hlt (by omega)), if_neg (gd_nI (show i < 24 by omega) (by decide)), tn_nI (by omega), nar0, flI_s, nI_1]
      exact ih (i + 1) (by omega) (by omega)
/-- what the class knows by SPANS is what the model finds whenever it is asked -/
def RcOK (N : Nat) (cb : Int32) (rl rg : Nat → Int64) (zm : Int32) (zw zs zfr zto zk zt za zb : Nat → Int32) : Prop := ∀ (zj : Int32) (zl : Nat → Int32) (zle zmo : Nat → Int64) (zc : Nat → Int32), ∃ (zj' : Int32) (zl' : Nat → Int32) (zle' zmo' : Nat → Int64) (zc' : Nat → Int32), mX8_spans (nI N) zm zj zw zs zfr zto zk zt za zb zl zle zmo zc = some (zj', zl', zle', zmo', zc') ∧ RcR N cb rl rg zle' zmo' zc'
theorem reach_new {nr : Int32} {wd sg : Nat → Int32} {lw hg : Nat → Int64} {zm : Int32} {zw zs : Nat → Int32} (hN : NmR nr wd sg lw hg zm zw zs) {kd tg sa sb bn zk zt za zb pa : Nat → Int32} {N : Nat} {pl : Int32} (hN24 : N ≤ 24) (hP : PathI N pl pa kd tg sa sb bn zk zt za zb) {d0 d1 : Nat} {fr to zfr zto : Nat → Int32} (hI : InR d0 d1 fr to zfr zto) (cb : Int32) (rlo rhi : Int64) (rl rg : Nat → Int64) :
    ∃ (cb' : Int32) (rlo' rhi' : Int64) (rl' rg' : Nat → Int64), mX2_learn nr sg lw hg fr to pl kd tg sa sb bn pa 0 cb rlo rhi rl rg = some (1, cb', rlo', rhi', rl', rg') ∧ RcOK N cb' rl' rg' zm zw zs zfr zto zk zt za zb := by
  have hI' := hI
  obtain ⟨h31, h31', f0, f1, t0, t1, ⟨a0, b0, c0⟩, ⟨a1, b1, c1⟩⟩ := hI'
  have key : ∀ (zj : Int32) (zl : Nat → Int32) (zle zmo : Nat → Int64) (zc : Nat → Int32), ∃ (cb' : Int32) (rlo' rhi' : Int64) (rl' rg' : Nat → Int64), mX2_learn nr sg lw hg fr to pl kd tg sa sb bn pa 0 cb rlo rhi rl rg = some (1, cb', rlo', rhi', rl', rg') ∧ ∃ (zj' : Int32) (zl' : Nat → Int32) (zle' zmo' : Nat → Int64) (zc' : Nat → Int32), mX8_spans (nI N) zm zj zw zs zfr zto zk zt za zb zl zle zmo zc = some (zj', zl', zle', zmo', zc') ∧ RcR N cb' rl' rg' zle' zmo' zc' := by
    intro zj zl zle zmo zc
    obtain ⟨zj1, zl1, len, e1, hP1⟩ := hP zj zl
    have hE0 : EnR (flL 6 0 rl) (flL 6 0 rg) (flL 6 0 zle) (flL 6 0 zmo) := by
      intro n hn
      unfold flL
      rw [if_pos hn, if_pos hn, if_pos hn, if_pos hn]
      exact ⟨rfl, rfl, by decide, by decide, by decide⟩
    have i64 : ∀ x : Int32, x.toInt64.toInt = x.toInt := fun x => Kit.i64_of_i32 x
    obtain ⟨o0, l0, h0, ho0, m0, -, s0, p0, p1, p2⟩ := ends_rel hN (show 0 < 6 by decide) (lo := (zfr 0).toInt64) (hi := (zto 0).toInt64) (by rw [i64, i64]; omega) (flL 6 0 rl) (flL 6 0 rg) (flL 6 0 zle) (flL 6 0 zmo)
    have hE1 := hE0.up (t := 0) p0 p1 p2
    obtain ⟨o1, l1, h1, ho1, m1, -, s1, p3, p4, p5⟩ := ends_rel hN (show 1 < 6 by decide) (lo := (zfr 1).toInt64) (hi := (zto 1).toInt64) (by rw [i64, i64]; omega) (vp_updL (flL 6 0 rl) 0 l0) (vp_updL (flL 6 0 rg) 0 h0) (vp_updL (flL 6 0 zle) 0 l0) (vp_updL (flL 6 0 zmo) 0 h0)
    have hE2 := hE1.up (t := 1) p3 p4 p5
    have hc0 : ∀ s, s < N → flI N 0 zc s = if bt 0 s = true then 1 else 0 := by
      intro s hs
      unfold flI
      rw [if_pos hs, b_0]; rfl
    obtain ⟨cb', rlo', rhi', rl', rg', zle', zmo', zc', g1, g2, g3⟩ := reach_loop hN hP1 fr to zfr zto (nI N) 1 FU 0 0 (zfr 1).toInt64 (zto 1).toInt64 _ _ _ _ _ (Nat.zero_le _) (by unfold FU; have := hP1.2.1; omega) ⟨hE2, hc0⟩
    have s0' : mX2_settle nr lw hg (zfr 0).toInt64 (zto 0).toInt64 (flL 6 0 rl) (flL 6 0 rg) (0 : Int32) = _ := s0
    have s1' : mX2_settle nr lw hg (zfr 1).toInt64 (zto 1).toInt64 (vp_updL (flL 6 0 rl) 0 l0) (vp_updL (flL 6 0 rg) 0 h0) (1 : Int32) = _ := s1
    have m0' : mX8_ends zm zw zs (flL 6 0 zle) (flL 6 0 zmo) (0 : Int32) (zfr 0).toInt64 (zto 0).toInt64 = _ := m0
    have m1' : mX8_ends zm zw zs (vp_updL (flL 6 0 zle) 0 l0) (vp_updL (flL 6 0 zmo) 0 h0) (1 : Int32) (zfr 1).toInt64 (zto 1).toInt64 = _ := m1
    refine ⟨cb', rlo', rhi', rl', rg', ?_, zj1, zl1, zle', zmo', zc', ?_, g3⟩
    · unfold mX2_learn
      rw [if_pos rfl, show FU = 997 + 1 + 1 + 1 from rfl, mX2_learn_L36, if_neg (by decide), if_neg (by decide), tn0, f0, t0, s0', Option.bind_some, show (0 : Int32) + 1 = 1 from rfl, mX2_learn_L36, if_neg (by decide), if_neg (by decide), tn1, f1, t1, s1', Option.bind_some, show (1 : Int32) + 1 = 2 from rfl, mX2_learn_L36, if_pos (by decide)]
      exact g1
    · unfold mX8_spans
      rw [e1, Option.bind_some]
      have e2 := m_S6 (nI N) zm zw zs zfr zto zk zt za zb zj1 zl1 zle zmo zc FU 0 (by omega) (by unfold FU; omega)
      rw [flL_0, flL_0] at e2
      have e3 := m_S34 hN24 zm zw zs zfr zto zk zt za zb zj1 zl1 (flL 6 0 zle) (flL 6 0 zmo) zc FU 0 (Nat.zero_le _) (by unfold FU; omega)
      rw [flI_0] at e3
      refine (e2.trans e3).trans ?_
      rw [show FU = 997 + 1 + 1 + 1 from rfl, mX8_spans_L57, if_neg (by decide), if_neg (by decide), tn0, m0', Option.bind_some, show (0 : Int32) + 1 = 1 from rfl, mX8_spans_L57, if_neg (by decide), if_neg (by decide), tn1, m1', Option.bind_some, show (1 : Int32) + 1 = 2 from rfl, mX8_spans_L57, if_pos (by decide)]
      exact g2
  obtain ⟨cb', rlo', rhi', rl', rg', h1, -⟩ := key 0 (fun _ => 0) (fun _ => 0) (fun _ => 0) (fun _ => 0)
  refine ⟨cb', rlo', rhi', rl', rg', h1, ?_⟩
  intro zj zl zle zmo zc
  obtain ⟨cb2, rlo2, rhi2, rl2, rg2, h2, h3⟩ := key zj zl zle zmo zc
  rw [h1] at h2
  cases h2
  exact h3
