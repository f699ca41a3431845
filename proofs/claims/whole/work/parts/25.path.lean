/-! ===== the path of the class, the line of the model ===== -/
/-- is a LOOP open ahead of step i? -/
def opn (kd : Nat → Int32) : Nat → Bool
  | 0 => false
  | i + 1 => if kd i = 8 then true else if kd i = 9 then false else opn kd i
def WF (N : Nat) (kd : Nat → Int32) : Prop := ∀ i, i < N → (kd i = 8 → opn kd i = false) ∧ (kd i = 9 → opn kd i = true)
/-- the steps of both sides -/
def StR (N : Nat) (kd tg sa sb bn zk zt za zb : Nat → Int32) : Prop := N ≤ 24 ∧ WF N zk ∧ ∀ s, s < N → kd s = zk s ∧ sb s = zb s ∧ (SpR kd tg sa sb bn zk zt za zb s ∨ (zk s = 8 ∧ ∃ k, 1 ≤ k ∧ k ≤ 12 ∧ zb s = nI k) ∨ zk s = 9)
def AgR (N len : Nat) (pa zl kd tg sa sb bn zk zt za zb : Nat → Int32) : Prop := ∀ i, i < len → ∃ s, s < N ∧ pa i = nI s ∧ zl i = nI s ∧ SpR kd tg sa sb bn zk zt za zb s
theorem AgR.add {N len : Nat} {pa zl kd tg sa sb bn zk zt za zb : Nat → Int32} (h : AgR N len pa zl kd tg sa sb bn zk zt za zb) {s : Nat} (hs : s < N) (hp : SpR kd tg sa sb bn zk zt za zb s) : AgR N (len + 1) (upd pa len (nI s)) (upd zl len (nI s)) kd tg sa sb bn zk zt za zb := by
  intro i hi
  unfold upd
  by_cases q : i = len
  · rw [if_pos q, if_pos q]; exact ⟨s, hs, rfl, rfl, hp⟩
  · rw [if_neg q, if_neg q]; exact h i (by omega)
theorem SpR.kind {kd tg sa sb bn zk zt za zb : Nat → Int32} {s : Nat} (h : SpR kd tg sa sb bn zk zt za zb s) : ¬ zk s = 8 ∧ ¬ zk s = 9 := by
  obtain ⟨-, -, -, -, -, hc⟩ := h
  rcases hc with ⟨k, -⟩ | ⟨k, -⟩ | ⟨k, -⟩ | ⟨k | k | k | k | k, -⟩ <;> rw [k] <;> exact ⟨by decide, by decide⟩
section TRACE
variable {N : Nat} {kd tg sa sb bn zk zt za zb : Nat → Int32}
abbrev K91 : Type := Int32 → (Nat → Int32) → Int32 → Int32 → Int32 → Option (Int32 × (Nat → Int32))
abbrev K7 : Type := Int32 → (Nat → Int32) → Int32 → Option (Int32 × (Nat → Int32))
abbrev K9 : Type := Int32 → (Nat → Int32) → Int32 → Int32 → Option (Int32 × (Nat → Int32))
theorem trace_rel {e : Nat} (he : e ≤ N) (hN : N ≤ 24) {b : Nat} (hb : ∀ j, b ≤ j → j < e → SpR kd tg sa sb bn zk zt za zb j) (k7 : K7) (k91 : K91) (x1 x3 : Int32) :
    ∀ (n n' j len : Nat) (pa zl : Nat → Int32), b ≤ j → j ≤ e → e - j < n → e - j < n' → len + (e - j) ≤ 288 → AgR N len pa zl kd tg sa sb bn zk zt za zb →
      ∃ pa' zl', mX4_trace_L2 n (nI len) pa (nI e) (nI j) = some (nI (len + (e - j)), pa') ∧ mX8_lays_L106 (nI N) zk zb k7 k91 n' (nI len) zl x1 (nI e) x3 (nI j) = k91 (nI (len + (e - j))) zl' x1 (nI e) (x3 + 1) ∧ AgR N (len + (e - j)) pa' zl' kd tg sa sb bn zk zt za zb := by
  intro n
  induction n with
  | zero => intro n' j len pa zl h1 h2 h3; omega
  | succ n ih =>
    intro n' j len pa zl hbj hj hn hn' hl hA
    obtain ⟨n', rfl⟩ : ∃ z, n' = z + 1 := ⟨n' - 1, by omega⟩
    rw [mX4_trace_L2, mX8_lays_L106]
    by_cases q : j = e
    · subst q
      rw [if_pos (le_of (Nat.le_refl _) (by omega)), if_pos (le_of (Nat.le_refl _) (by omega)), Nat.sub_self]
      exact ⟨pa, zl, rfl, rfl, hA⟩
    · have hlt : j < e := by omega
      have g := gd_nI (show len < 288 by omega) (show 288 < 2147483648 by decide)
      rw [if_neg (nle_of hlt (by omega)), if_neg (nle_of hlt (by omega)), if_neg (show ¬ (288 : Int32) ≤ nI len from nle_of (n := 288) (by omega) (by decide)), if_neg g, if_neg g, tn_nI (by omega), nI_1, nI_1]
      obtain ⟨pa', zl', r1, r2, r3⟩ := ih n' (j + 1) (len + 1) (upd pa len (nI j)) (upd zl len (nI j)) (by omega) (by omega) (by omega) (by omega) (by omega) (hA.add (by omega) (hb j hbj hlt))
      rw [show len + (e - j) = len + 1 + (e - (j + 1)) by omega]
      exact ⟨pa', zl', r1, r2, r3⟩
theorem times_rel {s e T : Nat} (hse : s < e) (he : e ≤ N) (hN : N ≤ 24) (hb : ∀ j, s + 1 ≤ j → j < e → SpR kd tg sa sb bn zk zt za zb j) (eb : sb s = nI T) (ezb : zb s = nI T) (hT : T ≤ 12) (kc : K9) (km : K7) :
    ∀ (n n' t len : Nat) (pa zl : Nat → Int32), t ≤ T → T - t < n → T - t < n' → len + (T - t) * (e - (s + 1)) ≤ 288 → AgR N len pa zl kd tg sa sb bn zk zt za zb →
      ∃ pa' zl', mX4_retrace_L36 (nI N) kd sb kc n (nI len) pa (nI e) (nI s) (nI t) = kc (nI (len + (T - t) * (e - (s + 1)))) pa' (nI e) (nI (s + 1)) ∧ mX8_lays_L91 (nI N) zk zb km n' (nI len) zl (nI s) (nI e) (nI t) = km (nI (len + (T - t) * (e - (s + 1)))) zl' (nI e) ∧ AgR N (len + (T - t) * (e - (s + 1))) pa' zl' kd tg sa sb bn zk zt za zb := by
  intro n
  induction n with
  | zero => intro n' t len pa zl h1 h2; omega
  | succ n ih =>
    intro n' t len pa zl ht hn hn' hl hA
    obtain ⟨n', rfl⟩ : ∃ z, n' = z + 1 := ⟨n' - 1, by omega⟩
    have g := gd_nI (show s < 24 by omega) (show 24 < 2147483648 by decide)
    rw [mX4_retrace_L36, mX8_lays_L91, if_neg g, if_neg g, tn_nI (by omega), eb, ezb]
    by_cases q : t = T
    · subst q
      rw [if_pos (le_of (Nat.le_refl _) (by omega)), if_pos (le_of (Nat.le_refl _) (by omega)), Nat.sub_self, Nat.zero_mul, nI_1]
      exact ⟨pa, zl, rfl, rfl, hA⟩
    · have hlt : t < T := by omega
      have hm : (T - t) * (e - (s + 1)) = (e - (s + 1)) + (T - (t + 1)) * (e - (s + 1)) := by
        rw [show T - t = (T - (t + 1)) + 1 by omega, Nat.succ_mul]; omega
      rw [if_neg (nle_of hlt (by omega)), if_neg (nle_of hlt (by omega)), nI_1]
      obtain ⟨pa1, zl1, r1, r2, r3⟩ := trace_rel he hN (b := s + 1) hb km (mX8_lays_L91 (nI N) zk zb km n') (nI s) (nI t) FU FU (s + 1) len pa zl (Nat.le_refl _) (by omega) (by unfold FU; omega) (by unfold FU; omega) (by omega) hA
      obtain ⟨pa2, zl2, s1, s2, s3⟩ := ih n' (t + 1) (len + (e - (s + 1))) pa1 zl1 (by omega) (by omega) (by omega) (by omega) r3
      rw [hm, ← Nat.add_assoc]
      refine ⟨pa2, zl2, ?_, ?_, s3⟩
      · unfold mX4_trace
        rw [r1, Option.bind_some, nI_1]
        exact s1
      · rw [r2, nI_1]
        exact s2
/-- where a LOOP ends -/
theorem end_c (hN : N ≤ 24) : ∀ (n j : Nat), j ≤ N → N - j < n → ∃ e, j ≤ e ∧ e ≤ N ∧ (e = N ∨ kd e = 9) ∧ (∀ i, j ≤ i → i < e → ¬ kd i = 9) ∧ mX4_endOf_L4 (nI N) kd n (nI j) = some (nI e) := by
  intro n
  induction n with
  | zero => intro j h1 h2; omega
  | succ n ih =>
    intro j hj hn
    rw [mX4_endOf_L4]
    by_cases q : j = N
    · subst q
      rw [if_pos (le_of (Nat.le_refl _) (by omega))]
      exact ⟨j, Nat.le_refl _, Nat.le_refl _, Or.inl rfl, fun i h1 h2 => by omega, rfl⟩
    · have hlt : j < N := by omega
      rw [if_neg (nle_of hlt (by omega)), if_neg (gd_nI (show j < 24 by omega) (by decide)), tn_nI (by omega)]
      by_cases h9 : kd j = 9
      · rw [if_pos h9]
        exact ⟨j, Nat.le_refl _, hj, Or.inr h9, fun i h1 h2 => by omega, rfl⟩
      · rw [if_neg h9, nI_1]
        obtain ⟨e, a1, a2, a3, a4, a5⟩ := ih (j + 1) (by omega) (by omega)
        refine ⟨e, by omega, a2, a3, fun i h1 h2 => ?_, a5⟩
        by_cases z : i = j
        · rw [z]; exact h9
        · exact a4 i (by omega) h2
theorem end_m (hN : N ≤ 24) {e : Nat} (he : e ≤ N) (h9 : e = N ∨ zk e = 9) (km : K7) (zj : Int32) (zl : Nat → Int32) (x1 : Int32) : ∀ (n j : Nat), j ≤ e → e - j < n → (∀ i, j ≤ i → i < e → ¬ zk i = 9) → mX8_lays_L64 (nI N) zk zb km n zj zl x1 (nI j) = mX8_lays_L91 (nI N) zk zb km FU zj zl x1 (nI e) 0 := by
  intro n
  induction n with
  | zero => intro j h1 h2; omega
  | succ n ih =>
    intro j hj hn hno
    rw [mX8_lays_L64]
    by_cases q : j = e
    · subst q
      by_cases z : j = N
      · rw [z, if_pos (le_of (Nat.le_refl _) (by omega))]
      · have hlt : j < N := by omega
        rw [if_neg (nle_of hlt (by omega)), if_neg (gd_nI (show j < 24 by omega) (by decide)), tn_nI (by omega), if_pos (h9.resolve_left z)]
    · have hlt : j < N := by omega
      rw [if_neg (nle_of hlt (by omega)), if_neg (gd_nI (show j < 24 by omega) (by decide)), tn_nI (by omega), if_neg (hno j (Nat.le_refl _) (by omega)), nI_1]
      exact ih (j + 1) (by omega) (by omega) (fun i h1 h2 => hno i (by omega) h2)
/-- the STEPS of a LOOP, and its END, are passed over when their own turn comes -/
theorem skip_c (hN : N ≤ 24) {e : Nat} (he : e ≤ N) (pl : Int32) (pa : Nat → Int32) : ∀ (d n j : Nat), j + d ≤ N → j + d ≤ e + 1 → (∀ i, j ≤ i → i < j + d → ¬ kd i = 8) → mX4_retrace_L9 (nI N) kd sb (n + d) pl pa (nI e) (nI j) = mX4_retrace_L9 (nI N) kd sb n pl pa (nI e) (nI (j + d)) := by
  intro d
  induction d with
  | zero => intro n j h1 h2 h3; rfl
  | succ d ih =>
    intro n j h1 h2 h3
    rw [← Nat.add_assoc n d 1, mX4_retrace_L9, if_neg (nle_of (show j < N by omega) (by omega)), if_neg (gd_nI (show j < 24 by omega) (by decide)), tn_nI (by omega), if_neg (h3 j (Nat.le_refl _) (by omega)), if_pos (le_of (show j ≤ e by omega) (by omega)), nI_1, show j + (d + 1) = j + 1 + d by omega]
    exact ih n (j + 1) (by omega) (by omega) (fun i h4 h5 => h3 i (by omega) (by omega))
theorem lay_rel (h : StR N kd tg sa sb bn zk zt za zb) :
    ∀ (n n' s len : Nat) (le : Int32) (pa zl : Nat → Int32), s ≤ N → N - s < n → N - s < n' → (∀ i, s ≤ i → i ≤ 24 → ¬ nI i ≤ le) → opn zk s = false → len ≤ 12 * s → AgR N len pa zl kd tg sa sb bn zk zt za zb →
      ∃ len' pa' zl', mX4_retrace_L9 (nI N) kd sb n (nI len) pa le (nI s) = some (nI len', pa') ∧ mX8_lays_L7 (nI N) zk zb n' (nI len) zl (nI s) = some (nI len', zl') ∧ len' ≤ 288 ∧ AgR N len' pa' zl' kd tg sa sb bn zk zt za zb := by
  obtain ⟨hN, hwf, hst⟩ := h
  intro n
  induction n using Nat.strongRecOn with
  | _ n ih =>
    intro n' s len le pa zl hs hn hn' hle hop hl hA
    obtain ⟨n, rfl⟩ : ∃ z, n = z + 1 := ⟨n - 1, by omega⟩
    obtain ⟨n', rfl⟩ : ∃ z, n' = z + 1 := ⟨n' - 1, by omega⟩
    rw [mX4_retrace_L9, mX8_lays_L7]
    by_cases q : s = N
    · subst q
      rw [if_pos (le_of (Nat.le_refl _) (by omega)), if_pos (le_of (Nat.le_refl _) (by omega))]
      exact ⟨len, pa, zl, rfl, rfl, by omega, hA⟩
    · have hlt : s < N := by omega
      have g := gd_nI (show s < 24 by omega) (show 24 < 2147483648 by decide)
      obtain ⟨ek, eb, hc⟩ := hst s hlt
      rw [if_neg (nle_of hlt (by omega)), if_neg (nle_of hlt (by omega)), if_neg g, if_neg g, tn_nI (by omega), ek]
      rcases hc with hp | ⟨h8, T, hT1, hT2, eT⟩ | h9
      · obtain ⟨n8, n9⟩ := hp.kind
        have gl := gd_nI (show len < 288 by omega) (show 288 < 2147483648 by decide)
        have hop2 : opn zk (s + 1) = false := by rw [opn, if_neg n8, if_neg n9]; exact hop
        obtain ⟨len', pa', zl', r1, r2, r3, r4⟩ := ih n (by omega) n' (s + 1) (len + 1) le (upd pa len (nI s)) (upd zl len (nI s)) (by omega) (by omega) (by omega) (fun i h4 h5 => hle i (by omega) h5) hop2 (by omega) (hA.add hlt hp)
        refine ⟨len', pa', zl', ?_, ?_, r3, r4⟩
        · rw [if_neg n8, if_neg (hle s (Nat.le_refl _) (by omega))]
          have ht : mX4_trace (nI len) pa (nI s) (nI s + 1) = some (nI (len + 1), upd pa len (nI s)) := by
            unfold mX4_trace
            rw [nI_1, show FU = 998 + 1 + 1 from rfl, mX4_trace_L2, if_neg (nle_of (show s < s + 1 by omega) (by omega)), if_neg (show ¬ (288 : Int32) ≤ nI len from nle_of (n := 288) (by omega) (by decide)), if_neg gl, tn_nI (by omega), nI_1, nI_1, mX4_trace_L2, if_pos (le_of (Nat.le_refl _) (by omega))]
          rw [ht, Option.bind_some, nI_1]
          exact r1
        · rw [if_neg n8, if_neg n9, if_neg gl, tn_nI (by omega), nI_1, nI_1]
          exact r2
      · obtain ⟨e, e1, e2, e3, e4, e5⟩ := end_c (kd := kd) hN FU (s + 1) (by omega) (by unfold FU; omega)
        have hz : ∀ i, i < N → kd i = zk i := fun i hi => (hst i hi).1
        have e3' : e = N ∨ zk e = 9 := e3.elim Or.inl (fun z => by
          by_cases y : e = N
          · exact Or.inl y
          · exact Or.inr ((hz e (by omega)).symm.trans z))
        have e4' : ∀ i, s + 1 ≤ i → i < e → ¬ zk i = 9 := fun i h1 h2 => by rw [← hz i (by omega)]; exact e4 i h1 h2
        have hopn : ∀ j, s + 1 ≤ j → j ≤ e → opn zk j = true := by
          intro j
          induction j with
          | zero => intro h1; omega
          | succ j ihj =>
            intro h1 h2
            by_cases z : j = s
            · rw [z, opn, if_pos h8]
            · rw [opn]
              by_cases y : zk j = 8
              · rw [if_pos y]
              · rw [if_neg y, if_neg (e4' j (by omega) (by omega))]
                exact ihj (by omega) (by omega)
        have hb : ∀ j, s + 1 ≤ j → j < e → SpR kd tg sa sb bn zk zt za zb j := by
          intro j h1 h2
          rcases (hst j (by omega)).2.2 with y | ⟨y, -⟩ | y
          · exact y
          · have := (hwf j (by omega)).1 y
            rw [hopn j h1 (by omega)] at this
            cases this
          · exact absurd y (e4' j h1 h2)
        have hno8 : ∀ i, s + 1 ≤ i → i < e → ¬ kd i = 8 := fun i h1 h2 => by rw [hz i (by omega)]; exact (hb i h1 h2).kind.1
        have hbound : T * (e - (s + 1)) ≤ 12 * (e - (s + 1)) := Nat.mul_le_mul_right _ hT2
        obtain ⟨pa1, zl1, r1, r2, r3⟩ := times_rel (by omega) e2 hN hb (eb.trans eT) eT hT2 (mX4_retrace_L9 (nI N) kd sb n) (mX8_lays_L7 (nI N) zk zb n') FU FU 0 len pa zl (Nat.zero_le _) (by unfold FU; omega) (by unfold FU; omega) (by rw [Nat.sub_zero]; omega) hA
        rw [Nat.sub_zero] at r1 r2 r3
        have hm := end_m (zb := zb) hN e2 e3' (mX8_lays_L7 (nI N) zk zb n') (nI len) zl (nI s) FU (s + 1) (by omega) (by unfold FU; omega) e4'
        have hc : (mX4_endOf (nI N) kd (nI s)).bind (fun u6 => mX4_retrace_L36 (nI N) kd sb (mX4_retrace_L9 (nI N) kd sb n) FU (nI len) pa u6 (nI s) 0) = mX4_retrace_L9 (nI N) kd sb n (nI (len + T * (e - (s + 1)))) pa1 (nI e) (nI (s + 1)) := by
          unfold mX4_endOf
          rw [nI_1, e5, Option.bind_some]
          exact r1
        have hd : mX8_lays_L64 (nI N) zk zb (mX8_lays_L7 (nI N) zk zb n') FU (nI len) zl (nI s) (nI s + 1) = mX8_lays_L7 (nI N) zk zb n' (nI (len + T * (e - (s + 1)))) zl1 (nI e) := by
          rw [nI_1, hm]
          exact r2
        rw [if_pos h8, if_pos h8, hc, hd]
        by_cases y : e = N
        · obtain ⟨m, rfl⟩ : ∃ z, n = z + 1 + (e - (s + 1)) := ⟨n - 1 - (e - (s + 1)), by omega⟩
          obtain ⟨n', rfl⟩ : ∃ z, n' = z + 1 := ⟨n' - 1, by omega⟩
          refine ⟨len + T * (e - (s + 1)), pa1, zl1, ?_, ?_, by omega, r3⟩
          · rw [skip_c hN e2 _ _ (e - (s + 1)) (m + 1) (s + 1) (by omega) (by omega) (fun i h4 h5 => hno8 i h4 (by omega)), mX4_retrace_L9, if_pos (le_of (by omega) (by omega))]
          · rw [mX8_lays_L7, if_pos (le_of (by omega) (by omega))]
        · have z9 : zk e = 9 := e3'.resolve_left y
          obtain ⟨n', rfl⟩ : ∃ z, n' = z + 1 := ⟨n' - 1, by omega⟩
          have hop2 : opn zk (e + 1) = false := by rw [opn, if_neg (by rw [z9]; decide), if_pos z9]
          obtain ⟨m, rfl⟩ : ∃ z, n = z + (e - s) := ⟨n - (e - s), by omega⟩
          obtain ⟨len', pa', zl', u1, u2, u3, u4⟩ := ih m (by omega) n' (e + 1) (len + T * (e - (s + 1))) (nI e) pa1 zl1 (by omega) (by omega) (by omega) (fun i h4 h5 => nle_of (by omega) (by omega)) hop2 (by omega) r3
          have k9 : ¬ kd e = 8 := by rw [hz e (by omega), z9]; decide
          have hsk := skip_c (kd := kd) (sb := sb) hN e2 (nI (len + T * (e - (s + 1)))) pa1 (e - s) m (s + 1) (by omega) (by omega) (fun i h4 h5 => by
            by_cases w : i = e
            · rw [w]; exact k9
            · exact hno8 i h4 (by omega))
          rw [show s + 1 + (e - s) = e + 1 by omega] at hsk
          refine ⟨len', pa', zl', hsk.trans u1, ?_, u3, u4⟩
          rw [mX8_lays_L7, if_neg (nle_of (show e < N by omega) (by omega)), if_neg (gd_nI (show e < 24 by omega) (by decide)), tn_nI (by omega), if_neg (by rw [z9]; decide), if_pos z9, nI_1]
          exact u2
      · have := (hwf s hlt).2 h9
        rw [hop] at this
        cases this
theorem path_new (h : StR N kd tg sa sb bn zk zt za zb) (pl : Int32) (pa : Nat → Int32) : ∃ pl' pa', mX4_retrace (nI N) pl kd sb pa = some (pl', pa') ∧ PathI N pl' pa' kd tg sa sb bn zk zt za zb := by
  have key : ∀ (zj : Int32) (zl : Nat → Int32), ∃ (len : Nat) (pa' zl' : Nat → Int32), mX4_retrace (nI N) pl kd sb pa = some (nI len, pa') ∧ mX8_lays (nI N) zj zk zb zl = some (nI len, zl') ∧ PaR N len (nI len) pa' (nI len) zl' kd tg sa sb bn zk zt za zb := by
    intro zj zl
    have hN := h.1
    obtain ⟨len', pa', zl', r1, r2, r3, r4⟩ := lay_rel h FU FU 0 0 (-1) pa zl (Nat.zero_le _) (by unfold FU; omega) (by unfold FU; omega) (fun i _ h5 => (by decide +kernel : ∀ i, i ≤ 24 → ¬ nI i ≤ (-1 : Int32)) i h5) rfl (by omega) (fun i hi => by omega)
    exact ⟨len', pa', zl', r1, r2, hN, r3, rfl, rfl, r4⟩
  obtain ⟨len, pa1, zl1, h1, -, -⟩ := key 0 (fun _ => 0)
  refine ⟨nI len, pa1, h1, fun zj zl => ?_⟩
  obtain ⟨len2, pa2, zl2, g1, g2, g3⟩ := key zj zl
  rw [h1] at g1
  have e1 : nI len = nI len2 := congrArg Prod.fst (Option.some.inj g1)
  have e2 : pa1 = pa2 := congrArg Prod.snd (Option.some.inj g1)
  subst e2
  rw [e1]
  exact ⟨nI len2, zl2, len2, g2, g3⟩
end TRACE
