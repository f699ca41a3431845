def wN (q : Nat → Nat) (cI cJ cZ : ClassId) (nr : Int32) (wd : Nat → Int32) (sg : Nat → Int32) (lw : Nat → Int64) (hg : Nat → Int64) : va_W := [(q 0, .inr (1, [.ref (q 1), .ref (q 2), .ref (q 3), .ref (q 4), .int nr])), (q 1, .inl (cI, 6, .inl wd)), (q 2, .inl (cZ, 6, .inl sg)), (q 3, .inl (cJ, 6, .inr (.inl lw))), (q 4, .inl (cJ, 6, .inr (.inl hg)))]
/-! ### SumsOver$Names.tell(IIZ)V -/
set_option maxRecDepth 20000 in
theorem hwX1_tellN_RX1 : ∀ w ∈ u_ws RX1 TX1 5, w ∈ wsX1_tell := by decide +kernel
theorem mwX1_tellN_0 : (.fieldLink RX1 9 "SumsOver$Names" "widths" "[I" : Cond) ∈ wsX1_tell := by decide +kernel
theorem mwX1_tellN_1 : (.fieldLink RX1 15 "SumsOver$Names" "signs" "[Z" : Cond) ∈ wsX1_tell := by decide +kernel
theorem mwX1_tellN_2 : (.fieldLink RX1 19 "SumsOver$Names" "least" "[J" : Cond) ∈ wsX1_tell := by decide +kernel
theorem mwX1_tellN_3 : (.initialized RX7 : Cond) ∈ wsX1_tell := by decide +kernel
theorem mwX1_tellN_4 : (.static yX7_leastOf : Cond) ∈ wsX1_tell := by decide +kernel
theorem mwX1_tellN_5 : (.fieldLink RX1 23 "SumsOver$Names" "greatest" "[J" : Cond) ∈ wsX1_tell := by decide +kernel
theorem mwX1_tellN_6 : (.static yX7_greatestOf : Cond) ∈ wsX1_tell := by decide +kernel
def rmX1_tellN : Room := { frames := 1, cells := 0, slots := 0, locals := 21 }
set_option maxHeartbeats 4000000 in
set_option maxRecDepth 100000 in
theorem kX1_tellN (l : Launch) (dC : Nat → ClassId) (dI : Nat → Nat → Nat) (q : Nat → Nat) (cI cJ cZ : ClassId) (nr : Int32) (wd : Nat → Int32) (sg : Nat → Int32) (lw : Nat → Int64) (hg : Nat → Int64) (x1 : Int32) (x2 : Int32) (x3 : Int32) (RES : (Nat → Int32) × (Nat → Int32) × (Nat → Int64) × (Nat → Int64)) (hres : mX1_tellN wd sg lw hg x1 x2 x3 = some RES) : CtV l yX1_tell wsX1_tell rmX1_tellN (dC, dI) (ty3 cI cJ cZ) (wN q cI cJ cZ nr wd sg lw hg) [.ref (q 0), .int x1, .int x2, .int x3] (wN q cI cJ cZ nr RES.1 RES.2.1 RES.2.2.1 RES.2.2.2) := by
  intro sz
  refine ct_entry (cc := cX1_tell) (maxL := 4) (ret := none) (own := RX1) (by decide) rfl rfl (Nat.le_of_ble_eq_true rfl) (ll := [(0, .ref (q 0)), (1, .int x1), (2, .int x2), (3, .int x3)]) rfl ?_
  intro p e s m args below meth c hsz C0 _ hP hD ls hl
  have C1 := C0
  obtain ⟨hx, hb, hr, hml, hown, hts, hlocks, hN, hK, hA⟩ := C1
  have hS : va_S (va_A (wN q cI cJ cZ nr wd sg lw hg) sz) s.heap s.heap [] := va_S.rf
  generalize va_A (wN q cI cJ cZ nr wd sg lw hg) sz = A at C0 hD hA hS ⊢
  show W p l e rmX1_tellN s m args below meth c s.heap [] 0 0 (QV below args s A (dC, dI) (ty3 cI cJ cZ) (wN q cI cJ cZ nr RES.1 RES.2.1 RES.2.2.1 RES.2.2.2)) (F0 m 0 ls [])
  unfold mX1_tellN at hres
  refine lv_aload_n hx hb dX1_tell_0 rfl (lv_at hl 0 rfl) ?_
  refine va_get (D := (dC, dI)) (ci := 1) (v := .ref (q 1)) (C := RX1) (T := TX1) (N := 5) hx hb hts hwX1_tellN_RX1 hown hK hP 0 rfl rfl 0 (by decide) (hts _ mwX1_tellN_0) (fun _ h9 => h9) rfl dX1_tell_1 ?_
  refine lv_iload_n hx hb dX1_tell_4 rfl (lv_at hl 1 rfl) ?_
  refine lv_iload_n hx hb dX1_tell_5 rfl (lv_at hl 2 rfl) ?_
  obtain ⟨g_1, hres⟩ := mi_g hres
  refine va_iast (D := (dC, dI)) (cl := vwCl) hx hb hK hP hD hS 1 0 rfl rfl g_1 dX1_tell_6 (fun H locs hP hD hS => ?_)
  have hP : va_P (dC, dI) vwCl (wN q cI cJ cZ nr (upd wd (Int32.toNatClampNeg x1) x2) sg lw hg) H := hP
  have hD : va_D A (wN q cI cJ cZ nr (upd wd (Int32.toNatClampNeg x1) x2) sg lw hg) := hD
  refine lv_aload_n hx hb dX1_tell_7 rfl (lv_at hl 0 rfl) ?_
  refine va_get (D := (dC, dI)) (ci := 1) (v := .ref (q 2)) (C := RX1) (T := TX1) (N := 5) hx hb hts hwX1_tellN_RX1 hown hK hP 0 rfl rfl 1 (by decide) (hts _ mwX1_tellN_1) (fun _ h9 => h9) rfl dX1_tell_8 ?_
  refine lv_iload_n hx hb dX1_tell_11 rfl (lv_at hl 1 rfl) ?_
  refine lv_iload_n hx hb dX1_tell_12 rfl (lv_at hl 3 rfl) ?_
  refine va_zast (D := (dC, dI)) (cl := vwCl) hx hb hK hP hD hS 2 2 rfl rfl g_1 dX1_tell_13 (fun H locs hP hD hS => ?_)
  have hP : va_P (dC, dI) vwCl (wN q cI cJ cZ nr (upd wd (Int32.toNatClampNeg x1) x2) (upd sg (Int32.toNatClampNeg x1) (vp_nar .boolean x3)) lw hg) H := hP
  have hD : va_D A (wN q cI cJ cZ nr (upd wd (Int32.toNatClampNeg x1) x2) (upd sg (Int32.toNatClampNeg x1) (vp_nar .boolean x3)) lw hg) := hD
  refine lv_aload_n hx hb dX1_tell_14 rfl (lv_at hl 0 rfl) ?_
  refine va_get (D := (dC, dI)) (ci := 1) (v := .ref (q 3)) (C := RX1) (T := TX1) (N := 5) hx hb hts hwX1_tellN_RX1 hown hK hP 0 rfl rfl 2 (by decide) (hts _ mwX1_tellN_2) (fun _ h9 => h9) rfl dX1_tell_15 ?_
  refine lv_iload_n hx hb dX1_tell_18 rfl (lv_at hl 1 rfl) ?_
  refine lv_iload_n hx hb dX1_tell_19 rfl (lv_at hl 2 rfl) ?_
  refine lv_iload_n hx hb dX1_tell_20 rfl (lv_at hl 3 rfl) ?_
  obtain ⟨u2, hu2, hres⟩ := mi_b hres
  refine call_L C0 (run_SN C0 (rest := [.int x1, .ref (q 3)]) (kX7_leastOf l (dC, dI) (ty3 cI cJ cZ) (wN q cI cJ cZ nr (upd wd (Int32.toNatClampNeg x1) x2) (upd sg (Int32.toNatClampNeg x1) (vp_nar .boolean x3)) lw hg) x2 x3 u2 hu2 _) ⟨va_cnB (host := RX7) 2 hts gX1_tell_X7_leastOf_n30 rfl rfl rfl (hN (.methodLinkNest RX1 30 yX7_leastOf RX7) (by decide +kernel)) (hts _ mwX1_tellN_3) (by decide +kernel) ⟨by decide, by decide⟩, (hts _ mwX1_tellN_4), trivial⟩ hP hD rfl hl.1 rfl (Nat.le_of_ble_eq_true rfl) dX1_tell_21) hD hS (fun H locs hP hD hS => ?_)
  refine va_last (D := (dC, dI)) (cl := vwCl) hx hb hK hP hD hS 3 1 rfl rfl g_1 dX1_tell_24 (fun H locs hP hD hS => ?_)
  have hP : va_P (dC, dI) vwCl (wN q cI cJ cZ nr (upd wd (Int32.toNatClampNeg x1) x2) (upd sg (Int32.toNatClampNeg x1) (vp_nar .boolean x3)) (vp_updL lw (Int32.toNatClampNeg x1) u2) hg) H := hP
  have hD : va_D A (wN q cI cJ cZ nr (upd wd (Int32.toNatClampNeg x1) x2) (upd sg (Int32.toNatClampNeg x1) (vp_nar .boolean x3)) (vp_updL lw (Int32.toNatClampNeg x1) u2) hg) := hD
  refine lv_aload_n hx hb dX1_tell_25 rfl (lv_at hl 0 rfl) ?_
  refine va_get (D := (dC, dI)) (ci := 1) (v := .ref (q 4)) (C := RX1) (T := TX1) (N := 5) hx hb hts hwX1_tellN_RX1 hown hK hP 0 rfl rfl 3 (by decide) (hts _ mwX1_tellN_5) (fun _ h9 => h9) rfl dX1_tell_26 ?_
  refine lv_iload_n hx hb dX1_tell_29 rfl (lv_at hl 1 rfl) ?_
  refine lv_iload_n hx hb dX1_tell_30 rfl (lv_at hl 2 rfl) ?_
  refine lv_iload_n hx hb dX1_tell_31 rfl (lv_at hl 3 rfl) ?_
  obtain ⟨u3, hu3, hres⟩ := mi_b hres
  refine call_L C0 (run_SN C0 (rest := [.int x1, .ref (q 4)]) (kX7_greatestOf l (dC, dI) (ty3 cI cJ cZ) (wN q cI cJ cZ nr (upd wd (Int32.toNatClampNeg x1) x2) (upd sg (Int32.toNatClampNeg x1) (vp_nar .boolean x3)) (vp_updL lw (Int32.toNatClampNeg x1) u2) hg) x2 x3 u3 hu3 _) ⟨va_cnB (host := RX7) 2 hts gX1_tell_X7_greatestOf_n34 rfl rfl rfl (hN (.methodLinkNest RX1 34 yX7_greatestOf RX7) (by decide +kernel)) (hts _ mwX1_tellN_3) (by decide +kernel) ⟨by decide, by decide⟩, (hts _ mwX1_tellN_6), trivial⟩ hP hD rfl hl.1 rfl (Nat.le_of_ble_eq_true rfl) dX1_tell_32) hD hS (fun H locs hP hD hS => ?_)
  refine va_last (D := (dC, dI)) (cl := vwCl) hx hb hK hP hD hS 4 1 rfl rfl g_1 dX1_tell_35 (fun H locs hP hD hS => ?_)
  have hP : va_P (dC, dI) vwCl (wN q cI cJ cZ nr (upd wd (Int32.toNatClampNeg x1) x2) (upd sg (Int32.toNatClampNeg x1) (vp_nar .boolean x3)) (vp_updL lw (Int32.toNatClampNeg x1) u2) (vp_updL hg (Int32.toNatClampNeg x1) u3)) H := hP
  have hD : va_D A (wN q cI cJ cZ nr (upd wd (Int32.toNatClampNeg x1) x2) (upd sg (Int32.toNatClampNeg x1) (vp_nar .boolean x3)) (vp_updL lw (Int32.toNatClampNeg x1) u2) (vp_updL hg (Int32.toNatClampNeg x1) u3)) := hD
  obtain rfl := Option.some.inj hres
  exact ret_V C0 hP hD hS dX1_tell_36
