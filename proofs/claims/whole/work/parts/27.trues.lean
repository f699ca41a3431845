/-! ===== TRUE values: class and model in step ===== -/
def TlR (tl th zlo zhi : Nat → Int64) : Prop := ∀ n, n < 6 → tl n = zlo n ∧ th n = zhi n
def TvR (tv zv : Nat → Int64) : Prop := ∀ n, n < 6 → tv n = zv n ∧ -1099511627776 ≤ (zv n).toInt ∧ (zv n).toInt ≤ 1099511627776
def nearS (v : Int64) : Prop := -1099511627776 ≤ v.toInt ∧ v.toInt ≤ 1099511627776
theorem TlR.up {tl th zlo zhi : Nat → Int64} (h : TlR tl th zlo zhi) {t : Nat} (ht : t < 6) (v : Int64) : TlR (vp_updL tl t (if v < tl t then v else tl t)) (vp_updL th t (if v < th t then th t else v)) (vp_updL zlo t (if v < zlo t then v else zlo t)) (vp_updL zhi t (if v < zhi t then zhi t else v)) := by
  obtain ⟨e1, e2⟩ := h t ht
  intro n hn
  unfold vp_updL
  by_cases q : n = t
  · rw [if_pos q, if_pos q, if_pos q, if_pos q, e1, e2]; exact ⟨rfl, rfl⟩
  · rw [if_neg q, if_neg q, if_neg q, if_neg q]; exact h n hn
theorem TvR.up {tv zv : Nat → Int64} (h : TvR tv zv) {t : Nat} {v : Int64} (hv : nearS v) : TvR (vp_updL tv t v) (vp_updL zv t v) := by
  intro n hn
  unfold vp_updL
  by_cases q : n = t
  · rw [if_pos q, if_pos q]; exact ⟨rfl, hv.1, hv.2⟩
  · rw [if_neg q, if_neg q]; exact h n hn
theorem give_rel {t : Nat} (ht : t < 6) {v : Int64} (hm : v.toInt ≠ -9223372036854775808) (tf : Int32) (tl th tv zv zlo zhi : Nat → Int64) :
    (nearS v ∧ mX6_give tf tl th tv (nI t) v = some (tf, vp_updL tl t (if v < tl t then v else tl t), vp_updL th t (if v < th t then th t else v), vp_updL tv t v) ∧ mX8_given zv zlo zhi (nI t) v = some (1, vp_updL zv t v, vp_updL zlo t (if v < zlo t then v else zlo t), vp_updL zhi t (if v < zhi t then zhi t else v))) ∨
    (mX6_give tf tl th tv (nI t) v = some (1, vp_updL tl t (if v < tl t then v else tl t), vp_updL th t (if v < th t then th t else v), vp_updL tv t v) ∧ mX8_given zv zlo zhi (nI t) v = some (0, vp_updL zv t v, vp_updL zlo t (if v < zlo t then v else zlo t), vp_updL zhi t (if v < zhi t then zhi t else v))) := by
  have gt := gd_nI ht (show 6 < 2147483648 by decide)
  have ha := abs_i hm
  have k1 : (1099511627776 : Int64).toInt = 1099511627776 := by decide
  have k2 : (-1099511627776 : Int64).toInt = -1099511627776 := by decide
  unfold mX6_give mX8_given mX8_isFar
  rw [if_neg gt, if_neg gt, tn_nI (by omega), m_in, Option.bind_some]
  by_cases hn : nearS v
  · refine Or.inl ⟨hn, ?_, ?_⟩
    · rw [if_pos (show (if 0 < v then v else -v) ≤ 1099511627776 by rw [Int64.le_iff_toInt_le, ha, k1]; obtain ⟨h1, h2⟩ := hn; omega)]
    · rw [if_neg (show ¬ (v < -1099511627776 ∨ 1099511627776 < v) by rw [Int64.lt_iff_toInt_lt, Int64.lt_iff_toInt_lt, k1, k2]; obtain ⟨h1, h2⟩ := hn; omega), if_neg (show ¬ (1 : Int32) = 0 by decide), Option.bind_some, if_pos rfl]
  · refine Or.inr ⟨?_, ?_⟩
    · rw [if_neg (show ¬ (if 0 < v then v else -v) ≤ 1099511627776 by rw [Int64.le_iff_toInt_le, ha, k1]; intro h; exact hn ⟨by omega, by omega⟩)]
    · rw [if_pos (show v < -1099511627776 ∨ 1099511627776 < v by
        rw [Int64.lt_iff_toInt_lt, Int64.lt_iff_toInt_lt, k1, k2]
        by_cases z : v.toInt < -1099511627776
        · exact Or.inl z
        · by_cases y : 1099511627776 < v.toInt
          · exact Or.inr y
          · exact absurd ⟨by omega, by omega⟩ hn), if_pos (show (0 : Int32) = 0 from rfl), Option.bind_some, if_neg (by decide)]
theorem prod_rel {a b : Int64} (ha : nearS a) (hb : nearS b) : ∃ f : Int32, mX6_isProductTooFar a b = some f ∧ mX8_isFarProduct a b = some f ∧ (f = 0 ∨ f = 1) ∧ (f = 0 → (a * b).toInt ≠ -9223372036854775808) := by
  obtain ⟨a1, a2⟩ := ha
  obtain ⟨b1, b2⟩ := hb
  have eA := abs_i (v := a) (by omega)
  have eB := abs_i (v := b) (by omega)
  have z0 : (0 : Int64).toInt = 0 := Int64.toInt_zero
  by_cases h0 : a = 0
  · refine ⟨0, ?_, ?_, Or.inl rfl, fun _ => ?_⟩
    · unfold mX6_isProductTooFar
      rw [if_pos h0]
    · unfold mX8_isFarProduct
      rw [if_pos (show (if 0 < a then a else -a) = 0 by rw [h0]; decide)]
    · rw [h0, Int64.zero_mul, z0]; decide
  · have hA0 : a.toInt ≠ 0 := fun z => h0 (Int64.toInt_inj.mp (by rw [z, z0]))
    have n0 : ¬ (if 0 < a then a else -a) = 0 := by
      intro z
      rw [z, z0] at eA
      omega
    have hdiv : (1099511627776 / (if 0 < a then a else -a) : Int64).toInt = 1099511627776 / (a.toInt.natAbs : Int) := by
      rw [lg_ldiv_nonneg (by decide) (by rw [eA]; omega), eA]
      rfl
    by_cases hc : (if 0 < b then b else -b) ≤ 1099511627776 / (if 0 < a then a else -a)
    · refine ⟨0, ?_, ?_, Or.inl rfl, fun _ => ?_⟩
      · unfold mX6_isProductTooFar
        rw [if_neg h0, if_neg n0, if_pos hc]
      · unfold mX8_isFarProduct
        rw [if_neg n0, if_neg n0, if_pos hc]
      · rw [Int64.le_iff_toInt_le, eB, hdiv] at hc
        have hp : a.toInt.natAbs * b.toInt.natAbs ≤ 1099511627776 := by
          have h1 : b.toInt.natAbs ≤ 1099511627776 / a.toInt.natAbs := by
            have h3 := Int.natCast_ediv 1099511627776 a.toInt.natAbs
            exact Int.ofNat_le.mp (Int.le_trans hc (Int.le_of_eq h3.symm))
          have h2 := (Nat.le_div_iff_mul_le (show 0 < a.toInt.natAbs by omega)).mp h1
          rw [Nat.mul_comm]; exact h2
        rw [← Int.natAbs_mul] at hp
        rw [Kit.i64_mul (by omega) (by omega)]
        omega
    · refine ⟨1, ?_, ?_, Or.inr rfl, fun z => absurd z (by decide)⟩
      · unfold mX6_isProductTooFar
        rw [if_neg h0, if_neg n0, if_neg hc]
      · unfold mX8_isFarProduct
        rw [if_neg n0, if_neg n0, if_neg hc]
abbrev K45 : Type := (Nat → Int64) → (Nat → Int64) → (Nat → Int64) → Int32 → Option (Int32 × (Nat → Int64) × (Nat → Int64) × (Nat → Int64))
/-- the model's body for one STEP of TRUE values -/
def nBody (zj : Int32) (zw zs zk zt za zb zl : Nat → Int32) (k : K45) (zv zlo zhi : Nat → Int64) (x3 x4 : Int32) : Option (Int32 × (Nat → Int64) × (Nat → Int64) × (Nat → Int64)) :=
  if x4 < 0 ∨ 24 ≤ Int32.toNatClampNeg x4 then none else
  if zk (Int32.toNatClampNeg x4) = 4 then
  if za (Int32.toNatClampNeg x4) < 0 ∨ 6 ≤ Int32.toNatClampNeg (za (Int32.toNatClampNeg x4)) then none else
  if zb (Int32.toNatClampNeg x4) < 0 ∨ 6 ≤ Int32.toNatClampNeg (zb (Int32.toNatClampNeg x4)) then none else
  (mX8_isFarProduct (zv (Int32.toNatClampNeg (za (Int32.toNatClampNeg x4)))) (zv (Int32.toNatClampNeg (zb (Int32.toNatClampNeg x4))))).bind (fun u13 =>
  if u13 = 0 then
  mX8_isNear_L104 zj zw zs zk zt za zb zl k zv zlo zhi x3 x4 else
  some (0, zv, zlo, zhi)) else
  mX8_isNear_L104 zj zw zs zk zt za zb zl k zv zlo zhi x3 x4
/-- the value of a step (kind 4 if it isn't far), on both sides -/
theorem tval_rel {kd tg sa sb bn zk zt za zb : Nat → Int32} {s : Nat} (hs : s < 24) (hp : SpR kd tg sa sb bn zk zt za zb s) {tv zv : Nat → Int64} (hv : TvR tv zv) (zj : Int32) (zw zs zl : Nat → Int32) :
    (∃ v : Int64, v.toInt ≠ -9223372036854775808 ∧ (∀ (tf : Int32) (tl th : Nat → Int64), mX6_perform kd tg sa sb bn tf tl th tv (nI s) = (mX6_give tf tl th tv (tg s) v).bind (fun u => some (u.1, u.2.1, u.2.2.1, u.2.2.2))) ∧ (∀ (k : K45) (zlo zhi : Nat → Int64) (x3 : Int32), nBody zj zw zs zk zt za zb zl k zv zlo zhi x3 (nI s) = (mX8_given zv zlo zhi (zt s) v).bind (fun u => if u.1 = 0 then some (0, u.2.1, u.2.2.1, u.2.2.2) else k u.2.1 u.2.2.1 u.2.2.2 (x3 + 1)))) ∨
    ((∀ (tf : Int32) (tl th : Nat → Int64), mX6_perform kd tg sa sb bn tf tl th tv (nI s) = some (1, tl, th, tv)) ∧ (∀ (k : K45) (zlo zhi : Nat → Int64) (x3 : Int32), nBody zj zw zs zk zt za zb zl k zv zlo zhi x3 (nI s) = some (0, zv, zlo, zhi))) := by
  obtain ⟨ek, eb, et, -, ⟨a, ha, ea⟩, hc⟩ := hp
  have hg := gd_nI hs (show 24 < 2147483648 by decide)
  have htn := tn_nI (show s < 2147483648 by omega)
  have hg2 := hg
  rw [htn] at hg2
  have ga := gd_nI ha (show 6 < 2147483648 by decide)
  have ta := tn_nI (show a < 2147483648 by omega)
  obtain ⟨va, va1, va2⟩ := hv a ha
  -- not TIMES: what both sides do
  have hcl : ∀ (v a' b' : Int64), ¬ zk s = 4 → mX4_valueOfA sa tv (nI s) = some a' → mX4_valueOfB sb bn tv (nI s) = some b' → mX7_made (zk s) a' b' = some v → ∀ (tf : Int32) (tl th : Nat → Int64), mX6_perform kd tg sa sb bn tf tl th tv (nI s) = (mX6_give tf tl th tv (tg s) v).bind (fun u => some (u.1, u.2.1, u.2.2.1, u.2.2.2)) := by
    intro v a' b' n4 h1 h2 h3 tf tl th
    unfold mX6_perform
    rw [if_neg hg, h1, Option.bind_some, h2, Option.bind_some, htn, ek, if_neg n4, h3, Option.bind_some]
  have hmo : ∀ v : Int64, ¬ zk s = 4 → ¬ zk s = 7 → mX8_valueOf zw zs zk za zb zv (nI s) = some v → ∀ (k : K45) (zlo zhi : Nat → Int64) (x3 : Int32), nBody zj zw zs zk zt za zb zl k zv zlo zhi x3 (nI s) = (mX8_given zv zlo zhi (zt s) v).bind (fun u => if u.1 = 0 then some (0, u.2.1, u.2.2.1, u.2.2.2) else k u.2.1 u.2.2.1 u.2.2.2 (x3 + 1)) := by
    intro v n4 n7 h1 k zlo zhi x3
    unfold nBody mX8_isNear_L104
    rw [if_neg hg, htn, if_neg n4, if_neg hg2, if_neg n7, h1, Option.bind_some]
  rcases hc with ⟨k0, b0⟩ | ⟨k1, b0, eza⟩ | ⟨k5, b0, eza, k, hk, ezb⟩ | ⟨kk, b1, eza, b, hb, ezb⟩
  · have n4 : ¬ zk s = 4 := by rw [k0]; decide
    have n7 : ¬ zk s = 7 := by rw [k0]; decide
    refine Or.inl ⟨(zb s).toInt64, ?_, hcl _ _ _ n4 (c_valA hs ea ha tv) (c_valB0 hs b0 tv) (by rw [k0, made0, eb]), hmo _ n4 n7 ?_⟩
    · rw [Kit.i64_of_i32]
      have := Int32.le_toInt (zb s)
      omega
    · unfold mX8_valueOf
      rw [if_neg hg, htn, k0, if_pos rfl]
  · have n4 : ¬ zk s = 4 := by rw [k1]; decide
    have n7 : ¬ zk s = 7 := by rw [k1]; decide
    refine Or.inl ⟨zv a, by omega, hcl _ _ _ n4 (c_valA hs ea ha tv) (c_valB0 hs b0 tv) (by rw [k1, made1, va]), hmo _ n4 n7 ?_⟩
    unfold mX8_valueOf
    rw [if_neg hg, htn, k1, if_neg (by decide), if_pos rfl, eza, ea, if_neg ga, ta]
  · have n4 : ¬ zk s = 4 := by rw [k5]; decide
    have n7 : ¬ zk s = 7 := by rw [k5]; decide
    have hpk : ((1 : Int64) <<< ((zb s).toInt64 &&& 63)).toInt = ((2 ^ k : Nat) : Int) := by rw [ezb, pw1 (by omega), lNp (by omega)]
    have hp0 : (0 : Int) ≤ ((2 ^ k : Nat) : Int) := Int.natCast_nonneg _
    have hp12 : ((2 ^ k : Nat) : Int) ≤ 4096 := by
      have : 2 ^ k ≤ 2 ^ 12 := Nat.pow_le_pow_right (by decide) hk
      omega
    refine Or.inl ⟨zv a * ((1 : Int64) <<< ((zb s).toInt64 &&& 63)), ?_, hcl _ _ _ n4 (c_valA hs ea ha tv) (c_valB0 hs b0 tv) (by rw [k5, made5, eb, ezb, shift_eq _ (by omega), va]), hmo _ n4 n7 ?_⟩
    · have l1 : -1099511627776 * ((2 ^ k : Nat) : Int) ≤ (zv a).toInt * ((2 ^ k : Nat) : Int) := Int.mul_le_mul_of_nonneg_right va1 hp0
      have l2 : (zv a).toInt * ((2 ^ k : Nat) : Int) ≤ 1099511627776 * ((2 ^ k : Nat) : Int) := Int.mul_le_mul_of_nonneg_right va2 hp0
      rw [Kit.i64_mul (by rw [hpk]; omega) (by rw [hpk]; omega), hpk]
      omega
    · unfold mX8_valueOf
      rw [if_neg hg, htn, k5, if_neg (by decide), if_neg (by decide), if_neg (by decide), if_neg (by decide), if_neg (by decide), if_pos rfl, eza, ea, if_neg ga, ta]
  · have eb' : sb s = nI b := eb.trans ezb
    have gb := gd_nI hb (show 6 < 2147483648 by decide)
    have tb' := tn_nI (show b < 2147483648 by omega)
    obtain ⟨vb, vb1, vb2⟩ := hv b hb
    rcases kk with k2 | k2 | k2 | k2 | k2
    · have n4 : ¬ zk s = 4 := by rw [k2]; decide
      have n7 : ¬ zk s = 7 := by rw [k2]; decide
      refine Or.inl ⟨zv a + zv b, by rw [Kit.i64_add (by omega) (by omega)]; omega, hcl _ _ _ n4 (c_valA hs ea ha tv) (c_valB1 hs b1 eb' hb tv) (by rw [k2, made2, va, vb]), hmo _ n4 n7 ?_⟩
      unfold mX8_valueOf
      rw [if_neg hg, htn, k2, if_neg (by decide), if_neg (by decide), if_pos rfl, eza, ea, ezb, if_neg ga, if_neg gb, ta, tb']
    · have n4 : ¬ zk s = 4 := by rw [k2]; decide
      have n7 : ¬ zk s = 7 := by rw [k2]; decide
      refine Or.inl ⟨zv a - zv b, by rw [Kit.i64_sub (by omega) (by omega)]; omega, hcl _ _ _ n4 (c_valA hs ea ha tv) (c_valB1 hs b1 eb' hb tv) (by rw [k2, made3, va, vb]), hmo _ n4 n7 ?_⟩
      unfold mX8_valueOf
      rw [if_neg hg, htn, k2, if_neg (by decide), if_neg (by decide), if_neg (by decide), if_pos rfl, eza, ea, ezb, if_neg ga, if_neg gb, ta, tb']
    · obtain ⟨f, f1, f2, f01, hf⟩ := prod_rel (a := zv a) (b := zv b) ⟨va1, va2⟩ ⟨vb1, vb2⟩
      have n7 : ¬ zk s = 7 := by rw [k2]; decide
      have hval : mX8_valueOf zw zs zk za zb zv (nI s) = some (zv a * zv b) := by
        unfold mX8_valueOf
        rw [if_neg hg, htn, k2, if_neg (by decide), if_neg (by decide), if_neg (by decide), if_neg (by decide), if_pos rfl, eza, ea, ezb, if_neg ga, if_neg gb, ta, tb']
      have hcl4 : ∀ (tf : Int32) (tl th : Nat → Int64), mX6_perform kd tg sa sb bn tf tl th tv (nI s) = if f = 0 then (mX6_give tf tl th tv (tg s) (zv a * zv b)).bind (fun u => some (u.1, u.2.1, u.2.2.1, u.2.2.2)) else some (1, tl, th, tv) := by
        intro tf tl th
        unfold mX6_perform
        rw [if_neg hg, c_valA hs ea ha tv, Option.bind_some, c_valB1 hs b1 eb' hb tv, Option.bind_some, htn, ek, if_pos k2, va, vb, f1, Option.bind_some, k2, made4, Option.bind_some]
      have hmo4 : ∀ (k : K45) (zlo zhi : Nat → Int64) (x3 : Int32), nBody zj zw zs zk zt za zb zl k zv zlo zhi x3 (nI s) = if f = 0 then (mX8_given zv zlo zhi (zt s) (zv a * zv b)).bind (fun u => if u.1 = 0 then some (0, u.2.1, u.2.2.1, u.2.2.2) else k u.2.1 u.2.2.1 u.2.2.2 (x3 + 1)) else some (0, zv, zlo, zhi) := by
        intro k zlo zhi x3
        unfold nBody mX8_isNear_L104
        rw [if_neg hg, htn, if_pos k2, eza, ea, ezb, if_neg ga, if_neg gb, ta, tb', f2, Option.bind_some, if_neg hg2, if_neg n7, hval, Option.bind_some]
      rcases f01 with q | q
      · refine Or.inl ⟨zv a * zv b, hf q, fun tf tl th => ?_, fun k zlo zhi x3 => ?_⟩
        · rw [hcl4, if_pos q]
        · rw [hmo4, if_pos q]
      · have q0 : ¬ f = 0 := by rw [q]; decide
        refine Or.inr ⟨fun tf tl th => ?_, fun k zlo zhi x3 => ?_⟩
        · rw [hcl4, if_neg q0]
        · rw [hmo4, if_neg q0]
    · have n4 : ¬ zk s = 4 := by rw [k2]; decide
      have n7 : ¬ zk s = 7 := by rw [k2]; decide
      refine Or.inl ⟨if zv b < zv a then zv b else zv a, ?_, hcl _ _ _ n4 (c_valA hs ea ha tv) (c_valB1 hs b1 eb' hb tv) (by rw [k2, made6, va, vb]), hmo _ n4 n7 ?_⟩
      · by_cases z : zv b < zv a
        · rw [if_pos z]; omega
        · rw [if_neg z]; omega
      · unfold mX8_valueOf
        rw [if_neg hg, htn, k2, if_neg (by decide), if_neg (by decide), if_neg (by decide), if_neg (by decide), if_neg (by decide), if_neg (by decide), if_pos rfl, eza, ea, ezb, if_neg ga, if_neg gb, ta, tb']
    · have n4 : ¬ zk s = 4 := by rw [k2]; decide
      refine Or.inl ⟨if zv b ≤ zv a then 0 else 1, ?_, hcl _ _ _ n4 (c_valA hs ea ha tv) (c_valB1 hs b1 eb' hb tv) (by rw [k2, made7, va, vb]), fun k zlo zhi x3 => ?_⟩
      · by_cases z : zv b ≤ zv a
        · rw [if_pos z]; decide
        · rw [if_neg z]; decide
      · unfold nBody mX8_isNear_L104
        rw [if_neg hg, htn, if_neg n4, if_neg hg2, if_pos k2, eza, ea, ezb, if_neg ga, if_neg gb, ta, tb']
        by_cases z : zv b ≤ zv a
        · rw [if_pos z, if_pos z]
        · rw [if_neg z, if_neg z]
/-- a RUN of TRUE values from place i on -/
theorem near_loop {kd tg sa sb bn zk zt za zb pa zl : Nat → Int32} {N len : Nat} {pl zj : Int32} (hP : PaR N len pl pa zj zl kd tg sa sb bn zk zt za zb) (zw zs : Nat → Int32) :
    ∀ (n i : Nat) (tl th tv zv zlo zhi : Nat → Int64), i ≤ len → len - i < n → TlR tl th zlo zhi → TvR tv zv →
      (∃ tl' th' tv' zv' zlo' zhi', mX6_follow_L24 pl kd tg sa sb bn pa n 0 tl th tv (nI i) = some (0, tl', th', tv') ∧ mX8_isNear_L45 zj zw zs zk zt za zb zl n zv zlo zhi (nI i) = some (1, zv', zlo', zhi') ∧ TlR tl' th' zlo' zhi') ∨
      (∃ tl' th' tv' zv' zlo' zhi', mX6_follow_L24 pl kd tg sa sb bn pa n 0 tl th tv (nI i) = some (1, tl', th', tv') ∧ mX8_isNear_L45 zj zw zs zk zt za zb zl n zv zlo zhi (nI i) = some (0, zv', zlo', zhi')) := by
  obtain ⟨hN24, hl, rfl, rfl, hpath⟩ := hP
  intro n
  induction n with
  | zero => intro i tl th tv zv zlo zhi h1 h2; omega
  | succ n ih =>
    intro i tl th tv zv zlo zhi hi hn hT hV
    rw [mX6_follow_L24, mX8_isNear_L45]
    by_cases he : i = len
    · subst he
      rw [if_pos (le_of (Nat.le_refl _) (by omega)), if_pos (le_of (Nat.le_refl _) (by omega))]
      exact Or.inl ⟨_, _, _, _, _, _, rfl, rfl, hT⟩
    · have hlt : i < len := by omega
      obtain ⟨s, hsN, epa, ezl, hsp⟩ := hpath i hlt
      have hs : s < 24 := by omega
      have hstop : ∀ tl' th' tv', mX6_follow_L24 (nI len) kd tg sa sb bn pa n 1 tl' th' tv' (nI (i + 1)) = some (1, tl', th', tv') := by
        intro tl' th' tv'
        obtain ⟨n, rfl⟩ : ∃ z, n = z + 1 := ⟨n - 1, by omega⟩
        rw [mX6_follow_L24]
        by_cases z : nI len ≤ nI (i + 1)
        · rw [if_pos z]
        · rw [if_neg z, if_neg (show ¬ (1 : Int32) = 0 by decide)]
      obtain ⟨-, -, ett, ⟨t, ht, et⟩, -, -⟩ := id hsp
      rw [if_neg (nle_of hlt (by omega)), if_neg (nle_of hlt (by omega)), if_pos (show (0 : Int32) = 0 from rfl), if_neg (gd_nI (show i < 288 by omega) (by decide)), if_neg (gd_nI (show i < 288 by omega) (by decide)), tn_nI (by omega), epa, ezl, nI_1]
      rcases tval_rel hs hsp hV (nI len) zw zs zl with ⟨v, hv, hc, hm⟩ | ⟨hc, hm⟩
      · have hm1 := hm (mX8_isNear_L45 (nI len) zw zs zk zt za zb zl n) zlo zhi (nI i)
        unfold nBody at hm1
        rw [hc, et, hm1, ← ett, et, nI_1]
        rcases give_rel ht hv 0 tl th tv zv zlo zhi with ⟨hnr, g1, g2⟩ | ⟨g1, g2⟩
        · rw [g1, g2, Option.bind_some, Option.bind_some, Option.bind_some, if_neg (show ¬ (1 : Int32) = 0 by decide)]
          exact ih (i + 1) _ _ _ _ _ _ (by omega) (by omega) (hT.up ht v) (hV.up hnr)
        · rw [g1, g2, Option.bind_some, Option.bind_some, Option.bind_some, if_pos (show (0 : Int32) = 0 from rfl)]
          exact Or.inr ⟨_, _, _, _, _, _, hstop _ _ _, rfl⟩
      · have hm1 := hm (mX8_isNear_L45 (nI len) zw zs zk zt za zb zl n) zlo zhi (nI i)
        unfold nBody at hm1
        rw [hc, hm1, Option.bind_some]
        exact Or.inr ⟨_, _, _, _, _, _, hstop _ _ _, rfl⟩
theorem m_N2 (zj : Int32) (zw zs zk zt za zb zl : Nat → Int32) (zv zlo zhi : Nat → Int64) (x1 x2 : Int32) : ∀ (n i : Nat), i ≤ 6 → 6 - i < n → mX8_isNear_L2 zj zw zs zk zt za zb zl n (flL i 0 zv) zlo zhi x1 x2 (nI i) = (mX8_given (flL 6 0 zv) zlo zhi 0 x1.toInt64).bind (fun u2 => if u2.1 = 0 then some (0, u2.2.1, u2.2.2.1, u2.2.2.2) else (mX8_given u2.2.1 u2.2.2.1 u2.2.2.2 1 x2.toInt64).bind (fun u4 => if u4.1 = 0 then some (0, u4.2.1, u4.2.2.1, u4.2.2.2) else mX8_isNear_L45 zj zw zs zk zt za zb zl FU u4.2.1 u4.2.2.1 u4.2.2.2 0)) := by
  intro n
  induction n with
  | zero => intro i h1 h2; omega
  | succ n ih =>
    intro i hi hn
    rw [mX8_isNear_L2]
    by_cases he : i = 6
    · subst he
      rw [if_pos (show (6 : Int32) ≤ nI 6 by decide)]
    · have hlt : i < 6 := by omega
      rw [if_neg (show ¬ (6 : Int32) ≤ nI i from nle_of (n := 6) hlt (by decide)), if_neg (gd_nI hlt (by decide)), tn_nI (by omega), flL_s, nI_1]
      exact ih (i + 1) (by omega) (by omega)
/-- a whole RUN of TRUE values, of inputs that aren't far -/
theorem near_rel {kd tg sa sb bn zk zt za zb pa zl : Nat → Int32} {N len : Nat} {pl zj : Int32} (hP : PaR N len pl pa zj zl kd tg sa sb bn zk zt za zb) (zw zs : Nat → Int32) {tl th zlo zhi : Nat → Int64} (hT : TlR tl th zlo zhi) (tv zv : Nat → Int64) {x y : Int32} (hx : -1000000 ≤ x.toInt ∧ x.toInt ≤ 1000000) (hy : -1000000 ≤ y.toInt ∧ y.toInt ≤ 1000000) :
    (∃ tl' th' tv' zv' zlo' zhi', mX6_follow pl kd tg sa sb bn pa 0 tl th tv x y = some (0, tl', th', tv') ∧ mX8_isNear zj zw zs zk zt za zb zl zv zlo zhi x y = some (1, zv', zlo', zhi') ∧ TlR tl' th' zlo' zhi') ∨
    (∃ tl' th' tv' zv' zlo' zhi', mX6_follow pl kd tg sa sb bn pa 0 tl th tv x y = some (1, tl', th', tv') ∧ mX8_isNear zj zw zs zk zt za zb zl zv zlo zhi x y = some (0, zv', zlo', zhi')) := by
  have hx' : nearS x.toInt64 := by unfold nearS; rw [Kit.i64_of_i32]; omega
  have hy' : nearS y.toInt64 := by unfold nearS; rw [Kit.i64_of_i32]; omega
  have hV0 : TvR (flL 6 0 tv) (flL 6 0 zv) := by
    intro n hn
    unfold flL
    rw [if_pos hn, if_pos hn]
    exact ⟨rfl, by decide, by decide⟩
  have e2 := m_N2 zj zw zs zk zt za zb zl zv zlo zhi x y FU 0 (by omega) (by unfold FU; omega)
  rw [flL_0] at e2
  replace e2 : mX8_isNear_L2 zj zw zs zk zt za zb zl FU zv zlo zhi x y 0 = _ := e2
  have k1 : (1099511627776 : Int64).toInt = 1099511627776 := by decide
  rcases give_rel (show 0 < 6 by decide) (v := x.toInt64) (by unfold nearS at hx'; omega) 0 tl th (flL 6 0 tv) (flL 6 0 zv) zlo zhi with ⟨-, g1, g2⟩ | ⟨g1, -⟩
  · rcases give_rel (show 1 < 6 by decide) (v := y.toInt64) (by unfold nearS at hy'; omega) 0 (vp_updL tl 0 (if x.toInt64 < tl 0 then x.toInt64 else tl 0)) (vp_updL th 0 (if x.toInt64 < th 0 then th 0 else x.toInt64)) (vp_updL (flL 6 0 tv) 0 x.toInt64) (vp_updL (flL 6 0 zv) 0 x.toInt64) (vp_updL zlo 0 (if x.toInt64 < zlo 0 then x.toInt64 else zlo 0)) (vp_updL zhi 0 (if x.toInt64 < zhi 0 then zhi 0 else x.toInt64)) with ⟨-, g3, g4⟩ | ⟨g3, -⟩
    · have g1' : mX6_give 0 tl th (flL 6 0 tv) (0 : Int32) x.toInt64 = _ := g1
      have g2' : mX8_given (flL 6 0 zv) zlo zhi (0 : Int32) x.toInt64 = _ := g2
      have g3' : mX6_give 0 _ _ _ (1 : Int32) y.toInt64 = _ := g3
      have g4' : mX8_given _ _ _ (1 : Int32) y.toInt64 = _ := g4
      unfold mX6_follow mX8_isNear
      rw [g1', Option.bind_some, g3', Option.bind_some, e2, g2', Option.bind_some, if_neg (show ¬ (1 : Int32) = 0 by decide), g4', Option.bind_some, if_neg (show ¬ (1 : Int32) = 0 by decide)]
      exact near_loop hP zw zs FU 0 _ _ _ _ _ _ (Nat.zero_le _) (by unfold FU; have := hP.2.1; omega) ((hT.up (show 0 < 6 by decide) x.toInt64).up (show 1 < 6 by decide) y.toInt64) ((hV0.up hx').up hy')
    · exfalso
      unfold mX6_give at g3
      have hab := abs_i (v := y.toInt64) (by unfold nearS at hy'; omega)
      rw [if_neg (gd_nI (show 1 < 6 by decide) (by decide)), if_pos (show (if 0 < y.toInt64 then y.toInt64 else -y.toInt64) ≤ 1099511627776 by rw [Int64.le_iff_toInt_le, hab, k1]; obtain ⟨p1, p2⟩ := hy'; omega)] at g3
      have h01 : (0 : Int32) = 1 := congrArg Prod.fst (Option.some.inj g3)
      exact absurd h01 (by decide)
  · exfalso
    unfold mX6_give at g1
    have hab := abs_i (v := x.toInt64) (by unfold nearS at hx'; omega)
    rw [if_neg (gd_nI (show 0 < 6 by decide) (by decide)), if_pos (show (if 0 < x.toInt64 then x.toInt64 else -x.toInt64) ≤ 1099511627776 by rw [Int64.le_iff_toInt_le, hab, k1]; obtain ⟨p1, p2⟩ := hx'; omega)] at g1
    have h01 : (0 : Int32) = 1 := congrArg Prod.fst (Option.some.inj g1)
    exact absurd h01 (by decide)
/-- far on both sides, or near with the same lists -/
def TuR (tf fl : Int32) (tl th zlo zhi : Nat → Int64) : Prop := (tf = 0 ∧ fl = 1 ∧ TlR tl th zlo zhi) ∨ (tf = 1 ∧ fl = 0)
abbrev KC44 : Type := Int32 → Int32 → (Nat → Int64) → (Nat → Int64) → (Nat → Int64) → Int32 → Option (Int32 × Int32 × (Nat → Int64) × (Nat → Int64) × (Nat → Int64))
abbrev KM41 : Type := Int32 → (Nat → Int32) → (Nat → Int64) → (Nat → Int64) → (Nat → Int64) → Int32 → Int32 → Option (Int32 × Int32 × (Nat → Int32) × (Nat → Int64) × (Nat → Int64) × (Nat → Int64))
theorem ty_loop {kd tg sa sb bn zk zt za zb pa zl : Nat → Int32} {N len : Nat} {pl zj : Int32} (hP : PaR N len pl pa zj zl kd tg sa sb bn zk zt za zb) (zw zs : Nat → Int32) {d0 d1 : Nat} {fr to zfr zto : Nat → Int32} (hI : InR d0 d1 fr to zfr zto) (kn : Int32) (kc : KC44) (km : KM41) {x : Int32} {i : Nat} (hx : x = fr 0 + nI i) (hi : i ≤ 31) :
    ∀ (n j : Nat) (tf fl : Int32) (tl th tv zv zlo zhi : Nat → Int64), j ≤ d1 + 1 → d1 + 1 - j < n → TuR tf fl tl th zlo zhi →
      ∃ (tf' fl' : Int32) (tl' th' tv' zv' zlo' zhi' : Nat → Int64), TuR tf' fl' tl' th' zlo' zhi' ∧
        mX6_learn_L74 fr to pl kd tg sa sb bn pa kc n tf kn tl th tv x (fr 1 + nI j) = kc tf' kn tl' th' tv' (x + 1) ∧
        mX8_needs_L62 (nI N) zw zs zfr zto zk zt za zb km n zj zl zv zlo zhi fl x (fr 1 + nI j) = km zj zl zv' zlo' zhi' fl' (x + 1) := by
  obtain ⟨h31, h31', f0, f1, t0, t1, ⟨a0, b0, c0⟩, ⟨a1, b1, c1⟩⟩ := hI
  have hxi : x.toInt = (fr 0).toInt + i := by rw [hx]; exact add_i (by rw [f0]; omega) (by rw [f0]; omega) (by omega)
  intro n
  induction n with
  | zero => intro j tf fl tl th tv zv zlo zhi h1 h2; omega
  | succ n ih =>
    intro j tf fl tl th tv zv zlo zhi hj hn hR
    have hyi : (fr 1 + nI j).toInt = (fr 1).toInt + j := add_i (by rw [f1]; omega) (by rw [f1]; omega) (by omega)
    rw [mX6_learn_L74, mX8_needs_L62, tn1, t1]
    by_cases he : j = d1 + 1
    · have hlt : zto 1 < fr 1 + nI j := by rw [Int32.lt_iff_toInt_lt, hyi, f1]; omega
      rw [if_pos hlt, if_pos hlt]
      exact ⟨_, _, _, _, _, _, _, _, hR, rfl, rfl⟩
    · have hnlt : ¬ zto 1 < fr 1 + nI j := by rw [Int32.lt_iff_toInt_lt, hyi, f1]; omega
      rw [if_neg hnlt, if_neg hnlt]
      rcases hR with ⟨q1, q2, hT⟩ | ⟨q1, q2⟩
      · subst q1; subst q2
        rw [if_pos (show (0 : Int32) = 0 from rfl), if_neg (show ¬ (1 : Int32) = 0 by decide)]
        rcases near_rel hP zw zs hT tv zv (x := x) (y := fr 1 + nI j) (by rw [hxi, f0]; omega) (by rw [hyi, f1]; omega) with ⟨tl', th', tv', zv', zlo', zhi', g1, g2, g3⟩ | ⟨tl', th', tv', zv', zlo', zhi', g1, g2⟩
        · rw [g1, g2, Option.bind_some, Option.bind_some, add_1]
          exact ih (j + 1) 0 1 tl' th' tv' zv' zlo' zhi' (by omega) (by omega) (Or.inl ⟨rfl, rfl, g3⟩)
        · rw [g1, g2, Option.bind_some, Option.bind_some, add_1]
          exact ih (j + 1) 1 0 tl' th' tv' zv' zlo' zhi' (by omega) (by omega) (Or.inr ⟨rfl, rfl⟩)
      · subst q1; subst q2
        rw [if_neg (show ¬ (1 : Int32) = 0 by decide), if_pos (show (0 : Int32) = 0 from rfl)]
        exact ⟨_, _, _, _, _, _, _, _, Or.inr ⟨rfl, rfl⟩, rfl, rfl⟩
theorem tx_loop {kd tg sa sb bn zk zt za zb pa zl : Nat → Int32} {N len : Nat} {pl zj : Int32} (hP : PaR N len pl pa zj zl kd tg sa sb bn zk zt za zb) (zw zs : Nat → Int32) {d0 d1 : Nat} {fr to zfr zto : Nat → Int32} (hI : InR d0 d1 fr to zfr zto) (kn : Int32) :
    ∀ (n i : Nat) (tf fl : Int32) (tl th tv zv zlo zhi : Nat → Int64), i ≤ d0 + 1 → d0 + 1 - i < n → TuR tf fl tl th zlo zhi →
      ∃ (tf' fl' : Int32) (tl' th' tv' zv' zlo' zhi' : Nat → Int64), TuR tf' fl' tl' th' zlo' zhi' ∧
        mX6_learn_L44 fr to pl kd tg sa sb bn pa n tf kn tl th tv (fr 0 + nI i) = some (tf', kn, tl', th', tv') ∧
        mX8_needs_L41 (nI N) zw zs zfr zto zk zt za zb n zj zl zv zlo zhi fl (fr 0 + nI i) = some (fl', zj, zl, zv', zlo', zhi') := by
  have hI' := hI
  obtain ⟨h31, h31', f0, f1, t0, t1, ⟨a0, b0, c0⟩, ⟨a1, b1, c1⟩⟩ := hI'
  intro n
  induction n with
  | zero => intro i tf fl tl th tv zv zlo zhi h1 h2; omega
  | succ n ih =>
    intro i tf fl tl th tv zv zlo zhi hi hn hR
    have hxi : (fr 0 + nI i).toInt = (fr 0).toInt + i := add_i (by rw [f0]; omega) (by rw [f0]; omega) (by omega)
    have hfl : ¬ ¬ (fl = 0 ∨ fl = 1) := fun z => z (hR.elim (fun y => Or.inr y.2.1) (fun y => Or.inl y.2))
    rw [mX6_learn_L44, mX8_needs_L41, tn0, t0]
    by_cases he : i = d0 + 1
    · have hlt : zto 0 < fr 0 + nI i := by rw [Int32.lt_iff_toInt_lt, hxi, f0]; omega
      rw [if_pos hlt, if_pos hlt, if_neg hfl]
      exact ⟨_, _, _, _, _, _, _, _, hR, rfl, rfl⟩
    · have hnlt : ¬ zto 0 < fr 0 + nI i := by rw [Int32.lt_iff_toInt_lt, hxi, f0]; omega
      rw [if_neg hnlt, if_neg hnlt]
      rcases hR with ⟨q1, q2, hT⟩ | ⟨q1, q2⟩
      · subst q1; subst q2
        rw [if_pos (show (0 : Int32) = 0 from rfl), if_neg (show ¬ (1 : Int32) = 0 by decide), tn1]
        obtain ⟨tf', fl', tl', th', tv', zv', zlo', zhi', r1, r2, r3⟩ := ty_loop hP zw zs hI kn (mX6_learn_L44 fr to pl kd tg sa sb bn pa n) (mX8_needs_L41 (nI N) zw zs zfr zto zk zt za zb n) (rfl : fr 0 + nI i = fr 0 + nI i) (by omega) FU 0 0 1 tl th tv zv zlo zhi (by omega) (by unfold FU; omega) (Or.inl ⟨rfl, rfl, hT⟩)
        rw [add_0, add_1] at r2 r3
        obtain ⟨tf2, fl2, tl2, th2, tv2, zv2, zlo2, zhi2, s1, s2, s3⟩ := ih (i + 1) tf' fl' tl' th' tv' zv' zlo' zhi' (by omega) (by omega) r1
        refine ⟨tf2, fl2, tl2, th2, tv2, zv2, zlo2, zhi2, s1, ?_, ?_⟩
        · rw [r2]; exact s2
        · rw [← f1, r3]; exact s3
      · subst q1; subst q2
        rw [if_neg (show ¬ (1 : Int32) = 0 by decide), if_pos (show (0 : Int32) = 0 from rfl), if_neg (by decide)]
        exact ⟨_, _, _, _, _, _, _, _, Or.inr ⟨rfl, rfl⟩, rfl, rfl⟩
theorem m_N6 (zn : Int32) (zw zs zfr zto zk zt za zb : Nat → Int32) (zj : Int32) (zl : Nat → Int32) (zv zlo zhi : Nat → Int64) : ∀ (n i : Nat), i ≤ 6 → 6 - i < n → mX8_needs_L6 zn zw zs zfr zto zk zt za zb n zj zl zv (flL i 0 zlo) (flL i 0 zhi) (nI i) = mX8_needs_L41 zn zw zs zfr zto zk zt za zb FU zj zl zv (flL 6 0 zlo) (flL 6 0 zhi) 1 (zfr 0) := by
  intro n
  induction n with
  | zero => intro i h1 h2; omega
  | succ n ih =>
    intro i hi hn
    rw [mX8_needs_L6]
    by_cases he : i = 6
    · subst he
      rw [if_pos (show (6 : Int32) ≤ nI 6 by decide), tn0]
    · have hlt : i < 6 := by omega
      rw [if_neg (show ¬ (6 : Int32) ≤ nI i from nle_of (n := 6) hlt (by decide)), if_neg (gd_nI hlt (by decide)), tn_nI (by omega), flL_s, flL_s, nI_1]
      exact ih (i + 1) (by omega) (by omega)
/-- what the class knows of TRUE values is what the model finds whenever it is asked -/
def TrOK (N : Nat) (tf : Int32) (tl th : Nat → Int64) (zw zs zfr zto zk zt za zb : Nat → Int32) : Prop := ∀ (zj : Int32) (zl : Nat → Int32) (zv zlo zhi : Nat → Int64), ∃ (fl zj' : Int32) (zl' : Nat → Int32) (zv' zlo' zhi' : Nat → Int64), mX8_needs (nI N) zj zw zs zfr zto zk zt za zb zl zv zlo zhi = some (fl, zj', zl', zv', zlo', zhi') ∧ TuR tf fl tl th zlo' zhi'
theorem trues_new {kd tg sa sb bn zk zt za zb pa : Nat → Int32} {N : Nat} {pl : Int32} (hP : PathI N pl pa kd tg sa sb bn zk zt za zb) (zw zs : Nat → Int32) {d0 d1 : Nat} {fr to zfr zto : Nat → Int32} (hI : InR d0 d1 fr to zfr zto) (tf : Int32) (tl th tv : Nat → Int64) :
    ∃ (tf' : Int32) (tl' th' tv' : Nat → Int64), mX6_learn fr to pl kd tg sa sb bn pa tf 0 tl th tv = some (tf', 1, tl', th', tv') ∧ TrOK N tf' tl' th' zw zs zfr zto zk zt za zb := by
  have key : ∀ (zj : Int32) (zl : Nat → Int32) (zv zlo zhi : Nat → Int64), ∃ (tf' : Int32) (tl' th' tv' : Nat → Int64), mX6_learn fr to pl kd tg sa sb bn pa tf 0 tl th tv = some (tf', 1, tl', th', tv') ∧ ∃ (fl zj' : Int32) (zl' : Nat → Int32) (zv' zlo' zhi' : Nat → Int64), mX8_needs (nI N) zj zw zs zfr zto zk zt za zb zl zv zlo zhi = some (fl, zj', zl', zv', zlo', zhi') ∧ TuR tf' fl tl' th' zlo' zhi' := by
    intro zj zl zv zlo zhi
    obtain ⟨zj1, zl1, len, e1, hP1⟩ := hP zj zl
    have hT0 : TlR (flL 6 0 tl) (flL 6 0 th) (flL 6 0 zlo) (flL 6 0 zhi) := by
      intro n hn
      unfold flL
      rw [if_pos hn, if_pos hn, if_pos hn, if_pos hn]
      exact ⟨rfl, rfl⟩
    obtain ⟨tf', fl', tl', th', tv', zv', zlo', zhi', r1, r2, r3⟩ := tx_loop hP1 zw zs hI 1 FU 0 0 1 _ _ tv zv _ _ (by omega) (by unfold FU; have := hI.1; omega) (Or.inl ⟨rfl, rfl, hT0⟩)
    rw [add_0] at r2 r3
    refine ⟨tf', tl', th', tv', ?_, fl', zj1, zl1, zv', zlo', zhi', ?_, r1⟩
    · unfold mX6_learn
      rw [if_pos rfl, tn0]
      exact r2
    · unfold mX8_needs
      rw [e1, Option.bind_some]
      have e2 := m_N6 (nI N) zw zs zfr zto zk zt za zb zj1 zl1 zv zlo zhi FU 0 (by omega) (by unfold FU; omega)
      rw [flL_0, flL_0] at e2
      have f0 : fr 0 = zfr 0 := hI.2.2.1
      rw [f0] at r3
      exact e2.trans r3
  obtain ⟨tf', tl', th', tv', h1, -⟩ := key 0 (fun _ => 0) (fun _ => 0) (fun _ => 0) (fun _ => 0)
  refine ⟨tf', tl', th', tv', h1, ?_⟩
  intro zj zl zv zlo zhi
  obtain ⟨tf2, tl2, th2, tv2, h2, h3⟩ := key zj zl zv zlo zhi
  rw [h1] at h2
  cases h2
  exact h3
