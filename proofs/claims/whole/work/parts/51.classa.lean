def wC (q : Nat → Nat) (cI cJ cZ : ClassId) (nr : Int32) (wd : Nat → Int32) (sg : Nat → Int32) (lw : Nat → Int64) (hg : Nat → Int64) (fr : Nat → Int32) (to : Nat → Int32) (sn : Int32) (pl : Int32) (kd : Nat → Int32) (tg : Nat → Int32) (sa : Nat → Int32) (sb : Nat → Int32) (bn : Nat → Int32) (mt : Nat → Int32) (pa : Nat → Int32) (ob : Int32) (tb : Int32) (fo : Int32) (rv : Nat → Int64) (ro : Int32) (tk : Int32) (ov : Nat → Int32) (sh : Nat → Int32) (tu : Nat → Int32) (rk : Int32) (cb : Int32) (rlo : Int64) (rhi : Int64) (rl : Nat → Int64) (rg : Nat → Int64) (tf : Int32) (kn : Int32) (tl : Nat → Int64) (th : Nat → Int64) (tv : Nat → Int64) : va_W := [(q 0, .inr (7, [.ref (q 1), .ref (q 6), .ref (q 9), .ref (q 17), .ref (q 19), .ref (q 23), .ref (q 26)])), (q 1, .inr (1, [.ref (q 2), .ref (q 3), .ref (q 4), .ref (q 5), .int nr])), (q 2, .inl (cI, 6, .inl wd)), (q 3, .inl (cZ, 6, .inl sg)), (q 4, .inl (cJ, 6, .inr (.inl lw))), (q 5, .inl (cJ, 6, .inr (.inl hg))), (q 6, .inr (0, [.ref (q 7), .ref (q 8)])), (q 7, .inl (cI, 2, .inl fr)), (q 8, .inl (cI, 2, .inl to)), (q 9, .inr (4, [.ref (q 10), .ref (q 11), .ref (q 12), .ref (q 13), .ref (q 14), .ref (q 15), .int sn, .ref (q 16), .int pl])), (q 10, .inl (cI, 24, .inl kd)), (q 11, .inl (cI, 24, .inl tg)), (q 12, .inl (cI, 24, .inl sa)), (q 13, .inl (cI, 24, .inl sb)), (q 14, .inl (cZ, 24, .inl bn)), (q 15, .inl (cZ, 24, .inl mt)), (q 16, .inl (cI, 288, .inl pa)), (q 17, .inr (3, [.ref (q 1), .ref (q 9), .ref (q 18), .int ob, .int tb, .int fo])), (q 18, .inl (cJ, 6, .inr (.inl rv))), (q 19, .inr (5, [.ref (q 20), .ref (q 21), .ref (q 22), .int ro, .int tk, .ref (q 17), .ref (q 6)])), (q 20, .inl (cI, 24, .inl ov)), (q 21, .inl (cI, 24, .inl sh)), (q 22, .inl (cI, 24, .inl tu)), (q 23, .inr (2, [.ref (q 24), .ref (q 25), .int rk, .int cb, .long rlo, .long rhi, .ref (q 1), .ref (q 9), .ref (q 6)])), (q 24, .inl (cJ, 6, .inr (.inl rl))), (q 25, .inl (cJ, 6, .inr (.inl rg))), (q 26, .inr (6, [.ref (q 27), .ref (q 28), .int tf, .int kn, .ref (q 29), .ref (q 9), .ref (q 6)])), (q 27, .inl (cJ, 6, .inr (.inl tl))), (q 28, .inl (cJ, 6, .inr (.inl th))), (q 29, .inl (cJ, 6, .inr (.inl tv)))]
/-! ### SumsOver$Inputs.hold(II)Z -/
set_option maxRecDepth 20000 in
theorem hwX0_hold_RX0 : ∀ w ∈ u_ws RX0 TX0 2, w ∈ wsX0_hold := by decide +kernel
theorem mwX0_hold_0 : (.fieldLink RX0 9 "SumsOver$Inputs" "from" "[I" : Cond) ∈ wsX0_hold := by decide +kernel
theorem mwX0_hold_1 : (.fieldLink RX0 15 "SumsOver$Inputs" "to" "[I" : Cond) ∈ wsX0_hold := by decide +kernel
def rmX0_hold : Room := { frames := 0, cells := 0, slots := 0, locals := 0 }
set_option maxHeartbeats 4000000 in
set_option maxRecDepth 100000 in
theorem kX0_hold (l : Launch) (dC : Nat → ClassId) (dI : Nat → Nat → Nat) (q : Nat → Nat) (cI cJ cZ : ClassId) (nr : Int32) (wd : Nat → Int32) (sg : Nat → Int32) (lw : Nat → Int64) (hg : Nat → Int64) (fr : Nat → Int32) (to : Nat → Int32) (sn : Int32) (pl : Int32) (kd : Nat → Int32) (tg : Nat → Int32) (sa : Nat → Int32) (sb : Nat → Int32) (bn : Nat → Int32) (mt : Nat → Int32) (pa : Nat → Int32) (ob : Int32) (tb : Int32) (fo : Int32) (rv : Nat → Int64) (ro : Int32) (tk : Int32) (ov : Nat → Int32) (sh : Nat → Int32) (tu : Nat → Int32) (rk : Int32) (cb : Int32) (rlo : Int64) (rhi : Int64) (rl : Nat → Int64) (rg : Nat → Int64) (tf : Int32) (kn : Int32) (tl : Nat → Int64) (th : Nat → Int64) (tv : Nat → Int64) (x1 : Int32) (x2 : Int32) (RES : Int32) (hres : mX0_hold fr to x1 x2 = some RES) : CtI l yX0_hold wsX0_hold rmX0_hold (dC, dI) (ty3 cI cJ cZ) (wC q cI cJ cZ nr wd sg lw hg fr to sn pl kd tg sa sb bn mt pa ob tb fo rv ro tk ov sh tu rk cb rlo rhi rl rg tf kn tl th tv) [.ref (q 6), .int x1, .int x2] RES (wC q cI cJ cZ nr wd sg lw hg fr to sn pl kd tg sa sb bn mt pa ob tb fo rv ro tk ov sh tu rk cb rlo rhi rl rg tf kn tl th tv) := by
  intro sz
  refine ct_entry (cc := cX0_hold) (maxL := 3) (ret := some .boolean) (own := RX0) (by decide) rfl rfl (Nat.le_of_ble_eq_true rfl) (ll := [(0, .ref (q 6)), (1, .int x1), (2, .int x2)]) rfl ?_
  intro p e s m args below meth c hsz C0 _ hP hD ls hl
  have C1 := C0
  obtain ⟨hx, hb, hr, hml, hown, hts, hlocks, hN, hK, hA⟩ := C1
  have hS : va_S (va_A (wC q cI cJ cZ nr wd sg lw hg fr to sn pl kd tg sa sb bn mt pa ob tb fo rv ro tk ov sh tu rk cb rlo rhi rl rg tf kn tl th tv) sz) s.heap s.heap [] := va_S.rf
  generalize va_A (wC q cI cJ cZ nr wd sg lw hg fr to sn pl kd tg sa sb bn mt pa ob tb fo rv ro tk ov sh tu rk cb rlo rhi rl rg tf kn tl th tv) sz = A at C0 hD hA hS ⊢
  show W p l e rmX0_hold s m args below meth c s.heap [] 0 0 (QI below args s A (dC, dI) (ty3 cI cJ cZ) RES (wC q cI cJ cZ nr wd sg lw hg fr to sn pl kd tg sa sb bn mt pa ob tb fo rv ro tk ov sh tu rk cb rlo rhi rl rg tf kn tl th tv)) (F0 m 0 ls [])
  unfold mX0_hold at hres
  refine lv_iload_n hx hb dX0_hold_0 rfl (lv_at hl 1 rfl) ?_
  refine lv_aload_n hx hb dX0_hold_1 rfl (lv_at hl 0 rfl) ?_
  refine va_get (D := (dC, dI)) (ci := 0) (v := .ref (q 7)) (C := RX0) (T := TX0) (N := 2) hx hb hts hwX0_hold_RX0 hown hK hP 6 rfl rfl 0 (by decide) (hts _ mwX0_hold_0) (fun _ h9 => h9) rfl dX0_hold_2 ?_
  refine lv_iconst (v := (0 : Int32)) hx hb dX0_hold_5 (by decide) ?_
  refine va_iald (D := (dC, dI)) (cl := vwCl) hx hb hK hP 7 0 rfl rfl (show ¬ ((0 : Int32) < 0 ∨ 2 ≤ Int32.toNatClampNeg (0 : Int32)) by decide) dX0_hold_6 ?_
  refine lv_icmp_lt (tgt := 44) hx hb dX0_hold_7 (by decide) (fun c_1 => ?_) (fun c_1 => ?_)
  · replace hres := mi_p c_1 hres
    refine lv_iconst (v := (0 : Int32)) hx hb dX0_hold_44 (by decide) ?_
    obtain rfl := Option.some.inj hres
    exact ret_I (r := (0 : Int32)) C0 rfl hP hD hS dX0_hold_45
  · replace hres := mi_n c_1 hres
    refine lv_iload_n hx hb dX0_hold_10 rfl (lv_at hl 1 rfl) ?_
    refine lv_aload_n hx hb dX0_hold_11 rfl (lv_at hl 0 rfl) ?_
    refine va_get (D := (dC, dI)) (ci := 0) (v := .ref (q 8)) (C := RX0) (T := TX0) (N := 2) hx hb hts hwX0_hold_RX0 hown hK hP 6 rfl rfl 1 (by decide) (hts _ mwX0_hold_1) (fun _ h9 => h9) rfl dX0_hold_12 ?_
    refine lv_iconst (v := (0 : Int32)) hx hb dX0_hold_15 (by decide) ?_
    refine va_iald (D := (dC, dI)) (cl := vwCl) hx hb hK hP 8 0 rfl rfl (show ¬ ((0 : Int32) < 0 ∨ 2 ≤ Int32.toNatClampNeg (0 : Int32)) by decide) dX0_hold_16 ?_
    refine lv_icmp_gt (tgt := 44) hx hb dX0_hold_17 (by decide) (fun c_2 => ?_) (fun c_2 => ?_)
    · replace hres := mi_p c_2 hres
      refine lv_iconst (v := (0 : Int32)) hx hb dX0_hold_44 (by decide) ?_
      obtain rfl := Option.some.inj hres
      exact ret_I (r := (0 : Int32)) C0 rfl hP hD hS dX0_hold_45
    · replace hres := mi_n c_2 hres
      refine lv_iload_n hx hb dX0_hold_20 rfl (lv_at hl 2 rfl) ?_
      refine lv_aload_n hx hb dX0_hold_21 rfl (lv_at hl 0 rfl) ?_
      refine va_get (D := (dC, dI)) (ci := 0) (v := .ref (q 7)) (C := RX0) (T := TX0) (N := 2) hx hb hts hwX0_hold_RX0 hown hK hP 6 rfl rfl 0 (by decide) (hts _ mwX0_hold_0) (fun _ h9 => h9) rfl dX0_hold_22 ?_
      refine lv_iconst (v := (1 : Int32)) hx hb dX0_hold_25 (by decide) ?_
      refine va_iald (D := (dC, dI)) (cl := vwCl) hx hb hK hP 7 0 rfl rfl (show ¬ ((1 : Int32) < 0 ∨ 2 ≤ Int32.toNatClampNeg (1 : Int32)) by decide) dX0_hold_26 ?_
      refine lv_icmp_lt (tgt := 44) hx hb dX0_hold_27 (by decide) (fun c_3 => ?_) (fun c_3 => ?_)
      · replace hres := mi_p c_3 hres
        refine lv_iconst (v := (0 : Int32)) hx hb dX0_hold_44 (by decide) ?_
        obtain rfl := Option.some.inj hres
        exact ret_I (r := (0 : Int32)) C0 rfl hP hD hS dX0_hold_45
      · replace hres := mi_n c_3 hres
        refine lv_iload_n hx hb dX0_hold_30 rfl (lv_at hl 2 rfl) ?_
        refine lv_aload_n hx hb dX0_hold_31 rfl (lv_at hl 0 rfl) ?_
        refine va_get (D := (dC, dI)) (ci := 0) (v := .ref (q 8)) (C := RX0) (T := TX0) (N := 2) hx hb hts hwX0_hold_RX0 hown hK hP 6 rfl rfl 1 (by decide) (hts _ mwX0_hold_1) (fun _ h9 => h9) rfl dX0_hold_32 ?_
        refine lv_iconst (v := (1 : Int32)) hx hb dX0_hold_35 (by decide) ?_
        refine va_iald (D := (dC, dI)) (cl := vwCl) hx hb hK hP 8 0 rfl rfl (show ¬ ((1 : Int32) < 0 ∨ 2 ≤ Int32.toNatClampNeg (1 : Int32)) by decide) dX0_hold_36 ?_
        refine lv_icmp_gt (tgt := 44) hx hb dX0_hold_37 (by decide) (fun c_4 => ?_) (fun c_4 => ?_)
        · replace hres := mi_p c_4 hres
          refine lv_iconst (v := (0 : Int32)) hx hb dX0_hold_44 (by decide) ?_
          obtain rfl := Option.some.inj hres
          exact ret_I (r := (0 : Int32)) C0 rfl hP hD hS dX0_hold_45
        · replace hres := mi_n c_4 hres
          refine lv_iconst (v := (1 : Int32)) hx hb dX0_hold_40 (by decide) ?_
          refine lv_goto (tgt := 45) hx hb dX0_hold_41 (by decide) ?_
          obtain rfl := Option.some.inj hres
          exact ret_I (r := (1 : Int32)) C0 rfl hP hD hS dX0_hold_45
/-! ### SumsOver$Inputs.runs()I -/
set_option maxRecDepth 20000 in
theorem hwX0_runs_RX0 : ∀ w ∈ u_ws RX0 TX0 2, w ∈ wsX0_runs := by decide +kernel
theorem mwX0_runs_0 : (.fieldLink RX0 15 "SumsOver$Inputs" "to" "[I" : Cond) ∈ wsX0_runs := by decide +kernel
theorem mwX0_runs_1 : (.fieldLink RX0 9 "SumsOver$Inputs" "from" "[I" : Cond) ∈ wsX0_runs := by decide +kernel
def rmX0_runs : Room := { frames := 0, cells := 0, slots := 0, locals := 0 }
set_option maxHeartbeats 4000000 in
set_option maxRecDepth 100000 in
theorem kX0_runs (l : Launch) (dC : Nat → ClassId) (dI : Nat → Nat → Nat) (q : Nat → Nat) (cI cJ cZ : ClassId) (nr : Int32) (wd : Nat → Int32) (sg : Nat → Int32) (lw : Nat → Int64) (hg : Nat → Int64) (fr : Nat → Int32) (to : Nat → Int32) (sn : Int32) (pl : Int32) (kd : Nat → Int32) (tg : Nat → Int32) (sa : Nat → Int32) (sb : Nat → Int32) (bn : Nat → Int32) (mt : Nat → Int32) (pa : Nat → Int32) (ob : Int32) (tb : Int32) (fo : Int32) (rv : Nat → Int64) (ro : Int32) (tk : Int32) (ov : Nat → Int32) (sh : Nat → Int32) (tu : Nat → Int32) (rk : Int32) (cb : Int32) (rlo : Int64) (rhi : Int64) (rl : Nat → Int64) (rg : Nat → Int64) (tf : Int32) (kn : Int32) (tl : Nat → Int64) (th : Nat → Int64) (tv : Nat → Int64)  (RES : Int32) (hres : mX0_runs fr to = some RES) : CtI l yX0_runs wsX0_runs rmX0_runs (dC, dI) (ty3 cI cJ cZ) (wC q cI cJ cZ nr wd sg lw hg fr to sn pl kd tg sa sb bn mt pa ob tb fo rv ro tk ov sh tu rk cb rlo rhi rl rg tf kn tl th tv) [.ref (q 6)] RES (wC q cI cJ cZ nr wd sg lw hg fr to sn pl kd tg sa sb bn mt pa ob tb fo rv ro tk ov sh tu rk cb rlo rhi rl rg tf kn tl th tv) := by
  intro sz
  refine ct_entry (cc := cX0_runs) (maxL := 1) (ret := some .int) (own := RX0) (by decide) rfl rfl (Nat.le_of_ble_eq_true rfl) (ll := [(0, .ref (q 6))]) rfl ?_
  intro p e s m args below meth c hsz C0 _ hP hD ls hl
  have C1 := C0
  obtain ⟨hx, hb, hr, hml, hown, hts, hlocks, hN, hK, hA⟩ := C1
  have hS : va_S (va_A (wC q cI cJ cZ nr wd sg lw hg fr to sn pl kd tg sa sb bn mt pa ob tb fo rv ro tk ov sh tu rk cb rlo rhi rl rg tf kn tl th tv) sz) s.heap s.heap [] := va_S.rf
  generalize va_A (wC q cI cJ cZ nr wd sg lw hg fr to sn pl kd tg sa sb bn mt pa ob tb fo rv ro tk ov sh tu rk cb rlo rhi rl rg tf kn tl th tv) sz = A at C0 hD hA hS ⊢
  show W p l e rmX0_runs s m args below meth c s.heap [] 0 0 (QI below args s A (dC, dI) (ty3 cI cJ cZ) RES (wC q cI cJ cZ nr wd sg lw hg fr to sn pl kd tg sa sb bn mt pa ob tb fo rv ro tk ov sh tu rk cb rlo rhi rl rg tf kn tl th tv)) (F0 m 0 ls [])
  unfold mX0_runs at hres
  refine lv_aload_n hx hb dX0_runs_0 rfl (lv_at hl 0 rfl) ?_
  refine va_get (D := (dC, dI)) (ci := 0) (v := .ref (q 8)) (C := RX0) (T := TX0) (N := 2) hx hb hts hwX0_runs_RX0 hown hK hP 6 rfl rfl 1 (by decide) (hts _ mwX0_runs_0) (fun _ h9 => h9) rfl dX0_runs_1 ?_
  refine lv_iconst (v := (0 : Int32)) hx hb dX0_runs_4 (by decide) ?_
  refine va_iald (D := (dC, dI)) (cl := vwCl) hx hb hK hP 8 0 rfl rfl (show ¬ ((0 : Int32) < 0 ∨ 2 ≤ Int32.toNatClampNeg (0 : Int32)) by decide) dX0_runs_5 ?_
  refine lv_aload_n hx hb dX0_runs_6 rfl (lv_at hl 0 rfl) ?_
  refine va_get (D := (dC, dI)) (ci := 0) (v := .ref (q 7)) (C := RX0) (T := TX0) (N := 2) hx hb hts hwX0_runs_RX0 hown hK hP 6 rfl rfl 0 (by decide) (hts _ mwX0_runs_1) (fun _ h9 => h9) rfl dX0_runs_7 ?_
  refine lv_iconst (v := (0 : Int32)) hx hb dX0_runs_10 (by decide) ?_
  refine va_iald (D := (dC, dI)) (cl := vwCl) hx hb hK hP 7 0 rfl rfl (show ¬ ((0 : Int32) < 0 ∨ 2 ≤ Int32.toNatClampNeg (0 : Int32)) by decide) dX0_runs_11 ?_
  refine lv_isub hx hb dX0_runs_12 ?_
  refine lv_iconst (v := (1 : Int32)) hx hb dX0_runs_13 (by decide) ?_
  refine lv_iadd hx hb dX0_runs_14 ?_
  refine lv_aload_n hx hb dX0_runs_15 rfl (lv_at hl 0 rfl) ?_
  refine va_get (D := (dC, dI)) (ci := 0) (v := .ref (q 8)) (C := RX0) (T := TX0) (N := 2) hx hb hts hwX0_runs_RX0 hown hK hP 6 rfl rfl 1 (by decide) (hts _ mwX0_runs_0) (fun _ h9 => h9) rfl dX0_runs_16 ?_
  refine lv_iconst (v := (1 : Int32)) hx hb dX0_runs_19 (by decide) ?_
  refine va_iald (D := (dC, dI)) (cl := vwCl) hx hb hK hP 8 0 rfl rfl (show ¬ ((1 : Int32) < 0 ∨ 2 ≤ Int32.toNatClampNeg (1 : Int32)) by decide) dX0_runs_20 ?_
  refine lv_aload_n hx hb dX0_runs_21 rfl (lv_at hl 0 rfl) ?_
  refine va_get (D := (dC, dI)) (ci := 0) (v := .ref (q 7)) (C := RX0) (T := TX0) (N := 2) hx hb hts hwX0_runs_RX0 hown hK hP 6 rfl rfl 0 (by decide) (hts _ mwX0_runs_1) (fun _ h9 => h9) rfl dX0_runs_22 ?_
  refine lv_iconst (v := (1 : Int32)) hx hb dX0_runs_25 (by decide) ?_
  refine va_iald (D := (dC, dI)) (cl := vwCl) hx hb hK hP 7 0 rfl rfl (show ¬ ((1 : Int32) < 0 ∨ 2 ≤ Int32.toNatClampNeg (1 : Int32)) by decide) dX0_runs_26 ?_
  refine lv_isub hx hb dX0_runs_27 ?_
  refine lv_iconst (v := (1 : Int32)) hx hb dX0_runs_28 (by decide) ?_
  refine lv_iadd hx hb dX0_runs_29 ?_
  refine lv_imul hx hb dX0_runs_30 ?_
  obtain rfl := Option.some.inj hres
  exact ret_I (r := ((((to (Int32.toNatClampNeg (0 : Int32))) - (fr (Int32.toNatClampNeg (0 : Int32)))) + (1 : Int32)) * (((to (Int32.toNatClampNeg (1 : Int32))) - (fr (Int32.toNatClampNeg (1 : Int32)))) + (1 : Int32)))) C0 rfl hP hD hS dX0_runs_31
/-! ### SumsOver$Names.tell(IIZ)V -/
set_option maxRecDepth 20000 in
theorem hwX1_tell_RX1 : ∀ w ∈ u_ws RX1 TX1 5, w ∈ wsX1_tell := by decide +kernel
theorem mwX1_tell_0 : (.fieldLink RX1 9 "SumsOver$Names" "widths" "[I" : Cond) ∈ wsX1_tell := by decide +kernel
theorem mwX1_tell_1 : (.fieldLink RX1 15 "SumsOver$Names" "signs" "[Z" : Cond) ∈ wsX1_tell := by decide +kernel
theorem mwX1_tell_2 : (.fieldLink RX1 19 "SumsOver$Names" "least" "[J" : Cond) ∈ wsX1_tell := by decide +kernel
theorem mwX1_tell_3 : (.initialized RX7 : Cond) ∈ wsX1_tell := by decide +kernel
theorem mwX1_tell_4 : (.static yX7_leastOf : Cond) ∈ wsX1_tell := by decide +kernel
theorem mwX1_tell_5 : (.fieldLink RX1 23 "SumsOver$Names" "greatest" "[J" : Cond) ∈ wsX1_tell := by decide +kernel
theorem mwX1_tell_6 : (.static yX7_greatestOf : Cond) ∈ wsX1_tell := by decide +kernel
def rmX1_tell : Room := { frames := 1, cells := 0, slots := 0, locals := 21 }
set_option maxHeartbeats 4000000 in
set_option maxRecDepth 100000 in
theorem kX1_tell (l : Launch) (dC : Nat → ClassId) (dI : Nat → Nat → Nat) (q : Nat → Nat) (cI cJ cZ : ClassId) (nr : Int32) (wd : Nat → Int32) (sg : Nat → Int32) (lw : Nat → Int64) (hg : Nat → Int64) (fr : Nat → Int32) (to : Nat → Int32) (sn : Int32) (pl : Int32) (kd : Nat → Int32) (tg : Nat → Int32) (sa : Nat → Int32) (sb : Nat → Int32) (bn : Nat → Int32) (mt : Nat → Int32) (pa : Nat → Int32) (ob : Int32) (tb : Int32) (fo : Int32) (rv : Nat → Int64) (ro : Int32) (tk : Int32) (ov : Nat → Int32) (sh : Nat → Int32) (tu : Nat → Int32) (rk : Int32) (cb : Int32) (rlo : Int64) (rhi : Int64) (rl : Nat → Int64) (rg : Nat → Int64) (tf : Int32) (kn : Int32) (tl : Nat → Int64) (th : Nat → Int64) (tv : Nat → Int64) (x1 : Int32) (x2 : Int32) (x3 : Int32) (RES : (Nat → Int32) × (Nat → Int32) × (Nat → Int64) × (Nat → Int64)) (hres : mX1_tell wd sg lw hg x1 x2 x3 = some RES) : CtV l yX1_tell wsX1_tell rmX1_tell (dC, dI) (ty3 cI cJ cZ) (wC q cI cJ cZ nr wd sg lw hg fr to sn pl kd tg sa sb bn mt pa ob tb fo rv ro tk ov sh tu rk cb rlo rhi rl rg tf kn tl th tv) [.ref (q 1), .int x1, .int x2, .int x3] (wC q cI cJ cZ nr RES.1 RES.2.1 RES.2.2.1 RES.2.2.2 fr to sn pl kd tg sa sb bn mt pa ob tb fo rv ro tk ov sh tu rk cb rlo rhi rl rg tf kn tl th tv) := by
  intro sz
  refine ct_entry (cc := cX1_tell) (maxL := 4) (ret := none) (own := RX1) (by decide) rfl rfl (Nat.le_of_ble_eq_true rfl) (ll := [(0, .ref (q 1)), (1, .int x1), (2, .int x2), (3, .int x3)]) rfl ?_
  intro p e s m args below meth c hsz C0 _ hP hD ls hl
  have C1 := C0
  obtain ⟨hx, hb, hr, hml, hown, hts, hlocks, hN, hK, hA⟩ := C1
  have hS : va_S (va_A (wC q cI cJ cZ nr wd sg lw hg fr to sn pl kd tg sa sb bn mt pa ob tb fo rv ro tk ov sh tu rk cb rlo rhi rl rg tf kn tl th tv) sz) s.heap s.heap [] := va_S.rf
  generalize va_A (wC q cI cJ cZ nr wd sg lw hg fr to sn pl kd tg sa sb bn mt pa ob tb fo rv ro tk ov sh tu rk cb rlo rhi rl rg tf kn tl th tv) sz = A at C0 hD hA hS ⊢
  show W p l e rmX1_tell s m args below meth c s.heap [] 0 0 (QV below args s A (dC, dI) (ty3 cI cJ cZ) (wC q cI cJ cZ nr RES.1 RES.2.1 RES.2.2.1 RES.2.2.2 fr to sn pl kd tg sa sb bn mt pa ob tb fo rv ro tk ov sh tu rk cb rlo rhi rl rg tf kn tl th tv)) (F0 m 0 ls [])
  unfold mX1_tell at hres
  refine lv_aload_n hx hb dX1_tell_0 rfl (lv_at hl 0 rfl) ?_
  refine va_get (D := (dC, dI)) (ci := 1) (v := .ref (q 2)) (C := RX1) (T := TX1) (N := 5) hx hb hts hwX1_tell_RX1 hown hK hP 1 rfl rfl 0 (by decide) (hts _ mwX1_tell_0) (fun _ h9 => h9) rfl dX1_tell_1 ?_
  refine lv_iload_n hx hb dX1_tell_4 rfl (lv_at hl 1 rfl) ?_
  refine lv_iload_n hx hb dX1_tell_5 rfl (lv_at hl 2 rfl) ?_
  obtain ⟨g_1, hres⟩ := mi_g hres
  refine va_iast (D := (dC, dI)) (cl := vwCl) hx hb hK hP hD hS 2 0 rfl rfl g_1 dX1_tell_6 (fun H locs hP hD hS => ?_)
  have hP : va_P (dC, dI) vwCl (wC q cI cJ cZ nr (upd wd (Int32.toNatClampNeg x1) x2) sg lw hg fr to sn pl kd tg sa sb bn mt pa ob tb fo rv ro tk ov sh tu rk cb rlo rhi rl rg tf kn tl th tv) H := hP
  have hD : va_D A (wC q cI cJ cZ nr (upd wd (Int32.toNatClampNeg x1) x2) sg lw hg fr to sn pl kd tg sa sb bn mt pa ob tb fo rv ro tk ov sh tu rk cb rlo rhi rl rg tf kn tl th tv) := hD
  refine lv_aload_n hx hb dX1_tell_7 rfl (lv_at hl 0 rfl) ?_
  refine va_get (D := (dC, dI)) (ci := 1) (v := .ref (q 3)) (C := RX1) (T := TX1) (N := 5) hx hb hts hwX1_tell_RX1 hown hK hP 1 rfl rfl 1 (by decide) (hts _ mwX1_tell_1) (fun _ h9 => h9) rfl dX1_tell_8 ?_
  refine lv_iload_n hx hb dX1_tell_11 rfl (lv_at hl 1 rfl) ?_
  refine lv_iload_n hx hb dX1_tell_12 rfl (lv_at hl 3 rfl) ?_
  refine va_zast (D := (dC, dI)) (cl := vwCl) hx hb hK hP hD hS 3 2 rfl rfl g_1 dX1_tell_13 (fun H locs hP hD hS => ?_)
  have hP : va_P (dC, dI) vwCl (wC q cI cJ cZ nr (upd wd (Int32.toNatClampNeg x1) x2) (upd sg (Int32.toNatClampNeg x1) (vp_nar .boolean x3)) lw hg fr to sn pl kd tg sa sb bn mt pa ob tb fo rv ro tk ov sh tu rk cb rlo rhi rl rg tf kn tl th tv) H := hP
  have hD : va_D A (wC q cI cJ cZ nr (upd wd (Int32.toNatClampNeg x1) x2) (upd sg (Int32.toNatClampNeg x1) (vp_nar .boolean x3)) lw hg fr to sn pl kd tg sa sb bn mt pa ob tb fo rv ro tk ov sh tu rk cb rlo rhi rl rg tf kn tl th tv) := hD
  refine lv_aload_n hx hb dX1_tell_14 rfl (lv_at hl 0 rfl) ?_
  refine va_get (D := (dC, dI)) (ci := 1) (v := .ref (q 4)) (C := RX1) (T := TX1) (N := 5) hx hb hts hwX1_tell_RX1 hown hK hP 1 rfl rfl 2 (by decide) (hts _ mwX1_tell_2) (fun _ h9 => h9) rfl dX1_tell_15 ?_
  refine lv_iload_n hx hb dX1_tell_18 rfl (lv_at hl 1 rfl) ?_
  refine lv_iload_n hx hb dX1_tell_19 rfl (lv_at hl 2 rfl) ?_
  refine lv_iload_n hx hb dX1_tell_20 rfl (lv_at hl 3 rfl) ?_
  obtain ⟨u2, hu2, hres⟩ := mi_b hres
  refine call_L C0 (run_SN C0 (rest := [.int x1, .ref (q 4)]) (kX7_leastOf l (dC, dI) (ty3 cI cJ cZ) (wC q cI cJ cZ nr (upd wd (Int32.toNatClampNeg x1) x2) (upd sg (Int32.toNatClampNeg x1) (vp_nar .boolean x3)) lw hg fr to sn pl kd tg sa sb bn mt pa ob tb fo rv ro tk ov sh tu rk cb rlo rhi rl rg tf kn tl th tv) x2 x3 u2 hu2 _) ⟨va_cnB (host := RX7) 2 hts gX1_tell_X7_leastOf_n30 rfl rfl rfl (hN (.methodLinkNest RX1 30 yX7_leastOf RX7) (by decide +kernel)) (hts _ mwX1_tell_3) (by decide +kernel) ⟨by decide, by decide⟩, (hts _ mwX1_tell_4), trivial⟩ hP hD rfl hl.1 rfl (Nat.le_of_ble_eq_true rfl) dX1_tell_21) hD hS (fun H locs hP hD hS => ?_)
  refine va_last (D := (dC, dI)) (cl := vwCl) hx hb hK hP hD hS 4 1 rfl rfl g_1 dX1_tell_24 (fun H locs hP hD hS => ?_)
  have hP : va_P (dC, dI) vwCl (wC q cI cJ cZ nr (upd wd (Int32.toNatClampNeg x1) x2) (upd sg (Int32.toNatClampNeg x1) (vp_nar .boolean x3)) (vp_updL lw (Int32.toNatClampNeg x1) u2) hg fr to sn pl kd tg sa sb bn mt pa ob tb fo rv ro tk ov sh tu rk cb rlo rhi rl rg tf kn tl th tv) H := hP
  have hD : va_D A (wC q cI cJ cZ nr (upd wd (Int32.toNatClampNeg x1) x2) (upd sg (Int32.toNatClampNeg x1) (vp_nar .boolean x3)) (vp_updL lw (Int32.toNatClampNeg x1) u2) hg fr to sn pl kd tg sa sb bn mt pa ob tb fo rv ro tk ov sh tu rk cb rlo rhi rl rg tf kn tl th tv) := hD
  refine lv_aload_n hx hb dX1_tell_25 rfl (lv_at hl 0 rfl) ?_
  refine va_get (D := (dC, dI)) (ci := 1) (v := .ref (q 5)) (C := RX1) (T := TX1) (N := 5) hx hb hts hwX1_tell_RX1 hown hK hP 1 rfl rfl 3 (by decide) (hts _ mwX1_tell_5) (fun _ h9 => h9) rfl dX1_tell_26 ?_
  refine lv_iload_n hx hb dX1_tell_29 rfl (lv_at hl 1 rfl) ?_
  refine lv_iload_n hx hb dX1_tell_30 rfl (lv_at hl 2 rfl) ?_
  refine lv_iload_n hx hb dX1_tell_31 rfl (lv_at hl 3 rfl) ?_
  obtain ⟨u3, hu3, hres⟩ := mi_b hres
  refine call_L C0 (run_SN C0 (rest := [.int x1, .ref (q 5)]) (kX7_greatestOf l (dC, dI) (ty3 cI cJ cZ) (wC q cI cJ cZ nr (upd wd (Int32.toNatClampNeg x1) x2) (upd sg (Int32.toNatClampNeg x1) (vp_nar .boolean x3)) (vp_updL lw (Int32.toNatClampNeg x1) u2) hg fr to sn pl kd tg sa sb bn mt pa ob tb fo rv ro tk ov sh tu rk cb rlo rhi rl rg tf kn tl th tv) x2 x3 u3 hu3 _) ⟨va_cnB (host := RX7) 2 hts gX1_tell_X7_greatestOf_n34 rfl rfl rfl (hN (.methodLinkNest RX1 34 yX7_greatestOf RX7) (by decide +kernel)) (hts _ mwX1_tell_3) (by decide +kernel) ⟨by decide, by decide⟩, (hts _ mwX1_tell_6), trivial⟩ hP hD rfl hl.1 rfl (Nat.le_of_ble_eq_true rfl) dX1_tell_32) hD hS (fun H locs hP hD hS => ?_)
  refine va_last (D := (dC, dI)) (cl := vwCl) hx hb hK hP hD hS 5 1 rfl rfl g_1 dX1_tell_35 (fun H locs hP hD hS => ?_)
  have hP : va_P (dC, dI) vwCl (wC q cI cJ cZ nr (upd wd (Int32.toNatClampNeg x1) x2) (upd sg (Int32.toNatClampNeg x1) (vp_nar .boolean x3)) (vp_updL lw (Int32.toNatClampNeg x1) u2) (vp_updL hg (Int32.toNatClampNeg x1) u3) fr to sn pl kd tg sa sb bn mt pa ob tb fo rv ro tk ov sh tu rk cb rlo rhi rl rg tf kn tl th tv) H := hP
  have hD : va_D A (wC q cI cJ cZ nr (upd wd (Int32.toNatClampNeg x1) x2) (upd sg (Int32.toNatClampNeg x1) (vp_nar .boolean x3)) (vp_updL lw (Int32.toNatClampNeg x1) u2) (vp_updL hg (Int32.toNatClampNeg x1) u3) fr to sn pl kd tg sa sb bn mt pa ob tb fo rv ro tk ov sh tu rk cb rlo rhi rl rg tf kn tl th tv) := hD
  obtain rfl := Option.some.inj hres
  exact ret_V C0 hP hD hS dX1_tell_36
/-! ### SumsOver$Names.holds(IJ)Z -/
set_option maxRecDepth 20000 in
theorem hwX1_holds_RX1 : ∀ w ∈ u_ws RX1 TX1 5, w ∈ wsX1_holds := by decide +kernel
theorem mwX1_holds_0 : (.fieldLink RX1 19 "SumsOver$Names" "least" "[J" : Cond) ∈ wsX1_holds := by decide +kernel
theorem mwX1_holds_1 : (.fieldLink RX1 23 "SumsOver$Names" "greatest" "[J" : Cond) ∈ wsX1_holds := by decide +kernel
def rmX1_holds : Room := { frames := 0, cells := 0, slots := 0, locals := 0 }
set_option maxHeartbeats 4000000 in
set_option maxRecDepth 100000 in
theorem kX1_holds (l : Launch) (dC : Nat → ClassId) (dI : Nat → Nat → Nat) (q : Nat → Nat) (cI cJ cZ : ClassId) (nr : Int32) (wd : Nat → Int32) (sg : Nat → Int32) (lw : Nat → Int64) (hg : Nat → Int64) (fr : Nat → Int32) (to : Nat → Int32) (sn : Int32) (pl : Int32) (kd : Nat → Int32) (tg : Nat → Int32) (sa : Nat → Int32) (sb : Nat → Int32) (bn : Nat → Int32) (mt : Nat → Int32) (pa : Nat → Int32) (ob : Int32) (tb : Int32) (fo : Int32) (rv : Nat → Int64) (ro : Int32) (tk : Int32) (ov : Nat → Int32) (sh : Nat → Int32) (tu : Nat → Int32) (rk : Int32) (cb : Int32) (rlo : Int64) (rhi : Int64) (rl : Nat → Int64) (rg : Nat → Int64) (tf : Int32) (kn : Int32) (tl : Nat → Int64) (th : Nat → Int64) (tv : Nat → Int64) (x1 : Int32) (x2 : Int64) (RES : Int32) (hres : mX1_holds lw hg x1 x2 = some RES) : CtI l yX1_holds wsX1_holds rmX1_holds (dC, dI) (ty3 cI cJ cZ) (wC q cI cJ cZ nr wd sg lw hg fr to sn pl kd tg sa sb bn mt pa ob tb fo rv ro tk ov sh tu rk cb rlo rhi rl rg tf kn tl th tv) [.ref (q 1), .int x1, .long x2] RES (wC q cI cJ cZ nr wd sg lw hg fr to sn pl kd tg sa sb bn mt pa ob tb fo rv ro tk ov sh tu rk cb rlo rhi rl rg tf kn tl th tv) := by
  intro sz
  refine ct_entry (cc := cX1_holds) (maxL := 4) (ret := some .boolean) (own := RX1) (by decide) rfl rfl (Nat.le_of_ble_eq_true rfl) (ll := [(0, .ref (q 1)), (1, .int x1), (2, .long x2)]) rfl ?_
  intro p e s m args below meth c hsz C0 _ hP hD ls hl
  have C1 := C0
  obtain ⟨hx, hb, hr, hml, hown, hts, hlocks, hN, hK, hA⟩ := C1
  have hS : va_S (va_A (wC q cI cJ cZ nr wd sg lw hg fr to sn pl kd tg sa sb bn mt pa ob tb fo rv ro tk ov sh tu rk cb rlo rhi rl rg tf kn tl th tv) sz) s.heap s.heap [] := va_S.rf
  generalize va_A (wC q cI cJ cZ nr wd sg lw hg fr to sn pl kd tg sa sb bn mt pa ob tb fo rv ro tk ov sh tu rk cb rlo rhi rl rg tf kn tl th tv) sz = A at C0 hD hA hS ⊢
  show W p l e rmX1_holds s m args below meth c s.heap [] 0 0 (QI below args s A (dC, dI) (ty3 cI cJ cZ) RES (wC q cI cJ cZ nr wd sg lw hg fr to sn pl kd tg sa sb bn mt pa ob tb fo rv ro tk ov sh tu rk cb rlo rhi rl rg tf kn tl th tv)) (F0 m 0 ls [])
  unfold mX1_holds at hres
  refine lv_lload_n hx hb dX1_holds_0 rfl (lv_at hl 2 rfl) ?_
  refine lv_aload_n hx hb dX1_holds_1 rfl (lv_at hl 0 rfl) ?_
  refine va_get (D := (dC, dI)) (ci := 1) (v := .ref (q 4)) (C := RX1) (T := TX1) (N := 5) hx hb hts hwX1_holds_RX1 hown hK hP 1 rfl rfl 2 (by decide) (hts _ mwX1_holds_0) (fun _ h9 => h9) rfl dX1_holds_2 ?_
  refine lv_iload_n hx hb dX1_holds_5 rfl (lv_at hl 1 rfl) ?_
  obtain ⟨g_1, hres⟩ := mi_g hres
  refine va_lald (D := (dC, dI)) (cl := vwCl) hx hb hK hP 4 1 rfl rfl g_1 dX1_holds_6 ?_
  refine W.lcmp hx hb dX1_holds_7 ?_
  refine lv_if_lt (tgt := 26) hx hb dX1_holds_8 (by decide) (fun c_2 => ?_) (fun c_2 => ?_)
  · rw [lg_cmp_lt] at c_2
    replace hres := mi_p c_2 hres
    refine lv_iconst (v := (0 : Int32)) hx hb dX1_holds_26 (by decide) ?_
    obtain rfl := Option.some.inj hres
    exact ret_I (r := (0 : Int32)) C0 rfl hP hD hS dX1_holds_27
  · rw [lg_cmp_lt] at c_2
    replace hres := mi_n c_2 hres
    refine lv_lload_n hx hb dX1_holds_11 rfl (lv_at hl 2 rfl) ?_
    refine lv_aload_n hx hb dX1_holds_12 rfl (lv_at hl 0 rfl) ?_
    refine va_get (D := (dC, dI)) (ci := 1) (v := .ref (q 5)) (C := RX1) (T := TX1) (N := 5) hx hb hts hwX1_holds_RX1 hown hK hP 1 rfl rfl 3 (by decide) (hts _ mwX1_holds_1) (fun _ h9 => h9) rfl dX1_holds_13 ?_
    refine lv_iload_n hx hb dX1_holds_16 rfl (lv_at hl 1 rfl) ?_
    refine va_lald (D := (dC, dI)) (cl := vwCl) hx hb hK hP 5 1 rfl rfl g_1 dX1_holds_17 ?_
    refine W.lcmp hx hb dX1_holds_18 ?_
    refine lv_if_gt (tgt := 26) hx hb dX1_holds_19 (by decide) (fun c_3 => ?_) (fun c_3 => ?_)
    · rw [lg_cmp_gt] at c_3
      replace hres := mi_p c_3 hres
      refine lv_iconst (v := (0 : Int32)) hx hb dX1_holds_26 (by decide) ?_
      obtain rfl := Option.some.inj hres
      exact ret_I (r := (0 : Int32)) C0 rfl hP hD hS dX1_holds_27
    · rw [lg_cmp_gt] at c_3
      replace hres := mi_n c_3 hres
      refine lv_iconst (v := (1 : Int32)) hx hb dX1_holds_22 (by decide) ?_
      refine lv_goto (tgt := 27) hx hb dX1_holds_23 (by decide) ?_
      obtain rfl := Option.some.inj hres
      exact ret_I (r := (1 : Int32)) C0 rfl hP hD hS dX1_holds_27
/-! ### SumsOver$Names.nearestTo(IJ)J -/
set_option maxRecDepth 20000 in
theorem hwX1_nearestTo_RX1 : ∀ w ∈ u_ws RX1 TX1 5, w ∈ wsX1_nearestTo := by decide +kernel
theorem mwX1_nearestTo_0 : (.fieldLink RX1 19 "SumsOver$Names" "least" "[J" : Cond) ∈ wsX1_nearestTo := by decide +kernel
theorem mwX1_nearestTo_1 : (.fieldLink RX1 23 "SumsOver$Names" "greatest" "[J" : Cond) ∈ wsX1_nearestTo := by decide +kernel
theorem mwX1_nearestTo_2 : (.methodLink RX1 48 Lib.MathLoose.min_long.x : Cond) ∈ wsX1_nearestTo := by decide +kernel
theorem mwX1_nearestTo_3 : (.static Lib.MathLoose.min_long.x : Cond) ∈ wsX1_nearestTo := by decide +kernel
theorem mwX1_nearestTo_4 : (.initialized "java/lang/Math" : Cond) ∈ wsX1_nearestTo := by decide +kernel
theorem mwX1_nearestTo_5 : (.code Lib.MathLoose.min_long.x Lib.MathLoose.min_long.code 4 (some .long) : Cond) ∈ wsX1_nearestTo := by decide +kernel
theorem mwX1_nearestTo_6 : (.methodLink RX1 54 Lib.MathLoose.max_long.x : Cond) ∈ wsX1_nearestTo := by decide +kernel
theorem mwX1_nearestTo_7 : (.static Lib.MathLoose.max_long.x : Cond) ∈ wsX1_nearestTo := by decide +kernel
theorem mwX1_nearestTo_8 : (.code Lib.MathLoose.max_long.x Lib.MathLoose.max_long.code 4 (some .long) : Cond) ∈ wsX1_nearestTo := by decide +kernel
def rmX1_nearestTo : Room := { frames := 1, cells := 0, slots := 0, locals := 23 }
set_option maxHeartbeats 4000000 in
set_option maxRecDepth 100000 in
theorem kX1_nearestTo (l : Launch) (dC : Nat → ClassId) (dI : Nat → Nat → Nat) (q : Nat → Nat) (cI cJ cZ : ClassId) (nr : Int32) (wd : Nat → Int32) (sg : Nat → Int32) (lw : Nat → Int64) (hg : Nat → Int64) (fr : Nat → Int32) (to : Nat → Int32) (sn : Int32) (pl : Int32) (kd : Nat → Int32) (tg : Nat → Int32) (sa : Nat → Int32) (sb : Nat → Int32) (bn : Nat → Int32) (mt : Nat → Int32) (pa : Nat → Int32) (ob : Int32) (tb : Int32) (fo : Int32) (rv : Nat → Int64) (ro : Int32) (tk : Int32) (ov : Nat → Int32) (sh : Nat → Int32) (tu : Nat → Int32) (rk : Int32) (cb : Int32) (rlo : Int64) (rhi : Int64) (rl : Nat → Int64) (rg : Nat → Int64) (tf : Int32) (kn : Int32) (tl : Nat → Int64) (th : Nat → Int64) (tv : Nat → Int64) (x1 : Int32) (x2 : Int64) (RES : Int64) (hres : mX1_nearestTo lw hg x1 x2 = some RES) : CtL l yX1_nearestTo wsX1_nearestTo rmX1_nearestTo (dC, dI) (ty3 cI cJ cZ) (wC q cI cJ cZ nr wd sg lw hg fr to sn pl kd tg sa sb bn mt pa ob tb fo rv ro tk ov sh tu rk cb rlo rhi rl rg tf kn tl th tv) [.ref (q 1), .int x1, .long x2] RES (wC q cI cJ cZ nr wd sg lw hg fr to sn pl kd tg sa sb bn mt pa ob tb fo rv ro tk ov sh tu rk cb rlo rhi rl rg tf kn tl th tv) := by
  intro sz
  refine ct_entry (cc := cX1_nearestTo) (maxL := 4) (ret := some .long) (own := RX1) (by decide) rfl rfl (Nat.le_of_ble_eq_true rfl) (ll := [(0, .ref (q 1)), (1, .int x1), (2, .long x2)]) rfl ?_
  intro p e s m args below meth c hsz C0 _ hP hD ls hl
  have C1 := C0
  obtain ⟨hx, hb, hr, hml, hown, hts, hlocks, hN, hK, hA⟩ := C1
  have hS : va_S (va_A (wC q cI cJ cZ nr wd sg lw hg fr to sn pl kd tg sa sb bn mt pa ob tb fo rv ro tk ov sh tu rk cb rlo rhi rl rg tf kn tl th tv) sz) s.heap s.heap [] := va_S.rf
  generalize va_A (wC q cI cJ cZ nr wd sg lw hg fr to sn pl kd tg sa sb bn mt pa ob tb fo rv ro tk ov sh tu rk cb rlo rhi rl rg tf kn tl th tv) sz = A at C0 hD hA hS ⊢
  show W p l e rmX1_nearestTo s m args below meth c s.heap [] 0 0 (QL below args s A (dC, dI) (ty3 cI cJ cZ) RES (wC q cI cJ cZ nr wd sg lw hg fr to sn pl kd tg sa sb bn mt pa ob tb fo rv ro tk ov sh tu rk cb rlo rhi rl rg tf kn tl th tv)) (F0 m 0 ls [])
  unfold mX1_nearestTo at hres
  refine lv_aload_n hx hb dX1_nearestTo_0 rfl (lv_at hl 0 rfl) ?_
  refine va_get (D := (dC, dI)) (ci := 1) (v := .ref (q 4)) (C := RX1) (T := TX1) (N := 5) hx hb hts hwX1_nearestTo_RX1 hown hK hP 1 rfl rfl 2 (by decide) (hts _ mwX1_nearestTo_0) (fun _ h9 => h9) rfl dX1_nearestTo_1 ?_
  refine lv_iload_n hx hb dX1_nearestTo_4 rfl (lv_at hl 1 rfl) ?_
  obtain ⟨g_1, hres⟩ := mi_g hres
  refine va_lald (D := (dC, dI)) (cl := vwCl) hx hb hK hP 4 1 rfl rfl g_1 dX1_nearestTo_5 ?_
  refine lv_aload_n hx hb dX1_nearestTo_6 rfl (lv_at hl 0 rfl) ?_
  refine va_get (D := (dC, dI)) (ci := 1) (v := .ref (q 5)) (C := RX1) (T := TX1) (N := 5) hx hb hts hwX1_nearestTo_RX1 hown hK hP 1 rfl rfl 3 (by decide) (hts _ mwX1_nearestTo_1) (fun _ h9 => h9) rfl dX1_nearestTo_7 ?_
  refine lv_iload_n hx hb dX1_nearestTo_10 rfl (lv_at hl 1 rfl) ?_
  refine va_lald (D := (dC, dI)) (cl := vwCl) hx hb hK hP 5 1 rfl rfl g_1 dX1_nearestTo_11 ?_
  refine lv_lload_n hx hb dX1_nearestTo_12 rfl (lv_at hl 2 rfl) ?_
  refine va_mmin_long hx hb (hml.trans hl.1.symm) hown (hts _ mwX1_nearestTo_2) (hts _ mwX1_nearestTo_3) (hts _ mwX1_nearestTo_4) (hts _ mwX1_nearestTo_5) (Nat.le_of_ble_eq_true rfl) (Nat.le_of_ble_eq_true rfl) (Nat.zero_le _) (Nat.zero_le _) dX1_nearestTo_13 ?_
  refine va_mmax_long hx hb (hml.trans hl.1.symm) hown (hts _ mwX1_nearestTo_6) (hts _ mwX1_nearestTo_7) (hts _ mwX1_nearestTo_4) (hts _ mwX1_nearestTo_8) (Nat.le_of_ble_eq_true rfl) (Nat.le_of_ble_eq_true rfl) (Nat.zero_le _) (Nat.zero_le _) dX1_nearestTo_16 ?_
  obtain rfl := Option.some.inj hres
  exact ret_L (r := (if (if x2 < (hg (Int32.toNatClampNeg x1)) then x2 else (hg (Int32.toNatClampNeg x1))) < (lw (Int32.toNatClampNeg x1)) then (lw (Int32.toNatClampNeg x1)) else (if x2 < (hg (Int32.toNatClampNeg x1)) then x2 else (hg (Int32.toNatClampNeg x1))))) C0 hP hD hS dX1_nearestTo_19
/-! ### SumsOver$Names.wrapped(IJ)J -/
set_option maxRecDepth 20000 in
theorem hwX1_wrapped_RX1 : ∀ w ∈ u_ws RX1 TX1 5, w ∈ wsX1_wrapped := by decide +kernel
theorem mwX1_wrapped_0 : (.fieldLink RX1 19 "SumsOver$Names" "least" "[J" : Cond) ∈ wsX1_wrapped := by decide +kernel
theorem mwX1_wrapped_1 : (.fieldLink RX1 9 "SumsOver$Names" "widths" "[I" : Cond) ∈ wsX1_wrapped := by decide +kernel
def rmX1_wrapped : Room := { frames := 1, cells := 0, slots := 0, locals := 22 }
set_option maxHeartbeats 4000000 in
set_option maxRecDepth 100000 in
theorem kX1_wrapped (l : Launch) (dC : Nat → ClassId) (dI : Nat → Nat → Nat) (q : Nat → Nat) (cI cJ cZ : ClassId) (nr : Int32) (wd : Nat → Int32) (sg : Nat → Int32) (lw : Nat → Int64) (hg : Nat → Int64) (fr : Nat → Int32) (to : Nat → Int32) (sn : Int32) (pl : Int32) (kd : Nat → Int32) (tg : Nat → Int32) (sa : Nat → Int32) (sb : Nat → Int32) (bn : Nat → Int32) (mt : Nat → Int32) (pa : Nat → Int32) (ob : Int32) (tb : Int32) (fo : Int32) (rv : Nat → Int64) (ro : Int32) (tk : Int32) (ov : Nat → Int32) (sh : Nat → Int32) (tu : Nat → Int32) (rk : Int32) (cb : Int32) (rlo : Int64) (rhi : Int64) (rl : Nat → Int64) (rg : Nat → Int64) (tf : Int32) (kn : Int32) (tl : Nat → Int64) (th : Nat → Int64) (tv : Nat → Int64) (x1 : Int32) (x2 : Int64) (RES : Int64) (hres : mX1_wrapped wd lw x1 x2 = some RES) : CtL l yX1_wrapped wsX1_wrapped rmX1_wrapped (dC, dI) (ty3 cI cJ cZ) (wC q cI cJ cZ nr wd sg lw hg fr to sn pl kd tg sa sb bn mt pa ob tb fo rv ro tk ov sh tu rk cb rlo rhi rl rg tf kn tl th tv) [.ref (q 1), .int x1, .long x2] RES (wC q cI cJ cZ nr wd sg lw hg fr to sn pl kd tg sa sb bn mt pa ob tb fo rv ro tk ov sh tu rk cb rlo rhi rl rg tf kn tl th tv) := by
  intro sz
  refine ct_entry (cc := cX1_wrapped) (maxL := 4) (ret := some .long) (own := RX1) (by decide) rfl rfl (Nat.le_of_ble_eq_true rfl) (ll := [(0, .ref (q 1)), (1, .int x1), (2, .long x2)]) rfl ?_
  intro p e s m args below meth c hsz C0 _ hP hD ls hl
  have C1 := C0
  obtain ⟨hx, hb, hr, hml, hown, hts, hlocks, hN, hK, hA⟩ := C1
  have hS : va_S (va_A (wC q cI cJ cZ nr wd sg lw hg fr to sn pl kd tg sa sb bn mt pa ob tb fo rv ro tk ov sh tu rk cb rlo rhi rl rg tf kn tl th tv) sz) s.heap s.heap [] := va_S.rf
  generalize va_A (wC q cI cJ cZ nr wd sg lw hg fr to sn pl kd tg sa sb bn mt pa ob tb fo rv ro tk ov sh tu rk cb rlo rhi rl rg tf kn tl th tv) sz = A at C0 hD hA hS ⊢
  show W p l e rmX1_wrapped s m args below meth c s.heap [] 0 0 (QL below args s A (dC, dI) (ty3 cI cJ cZ) RES (wC q cI cJ cZ nr wd sg lw hg fr to sn pl kd tg sa sb bn mt pa ob tb fo rv ro tk ov sh tu rk cb rlo rhi rl rg tf kn tl th tv)) (F0 m 0 ls [])
  unfold mX1_wrapped at hres
  refine lv_aload_n hx hb dX1_wrapped_0 rfl (lv_at hl 0 rfl) ?_
  refine va_get (D := (dC, dI)) (ci := 1) (v := .ref (q 4)) (C := RX1) (T := TX1) (N := 5) hx hb hts hwX1_wrapped_RX1 hown hK hP 1 rfl rfl 2 (by decide) (hts _ mwX1_wrapped_0) (fun _ h9 => h9) rfl dX1_wrapped_1 ?_
  refine lv_iload_n hx hb dX1_wrapped_4 rfl (lv_at hl 1 rfl) ?_
  obtain ⟨g_1, hres⟩ := mi_g hres
  refine va_lald (D := (dC, dI)) (cl := vwCl) hx hb hK hP 4 1 rfl rfl g_1 dX1_wrapped_5 ?_
  refine lv_lload_n hx hb dX1_wrapped_6 rfl (lv_at hl 2 rfl) ?_
  refine lv_aload_n hx hb dX1_wrapped_7 rfl (lv_at hl 0 rfl) ?_
  refine va_get (D := (dC, dI)) (ci := 1) (v := .ref (q 4)) (C := RX1) (T := TX1) (N := 5) hx hb hts hwX1_wrapped_RX1 hown hK hP 1 rfl rfl 2 (by decide) (hts _ mwX1_wrapped_0) (fun _ h9 => h9) rfl dX1_wrapped_8 ?_
  refine lv_iload_n hx hb dX1_wrapped_11 rfl (lv_at hl 1 rfl) ?_
  refine va_lald (D := (dC, dI)) (cl := vwCl) hx hb hK hP 4 1 rfl rfl g_1 dX1_wrapped_12 ?_
  refine lv_lsub hx hb dX1_wrapped_13 ?_
  refine lv_aload_n hx hb dX1_wrapped_14 rfl (lv_at hl 0 rfl) ?_
  refine va_get (D := (dC, dI)) (ci := 1) (v := .ref (q 2)) (C := RX1) (T := TX1) (N := 5) hx hb hts hwX1_wrapped_RX1 hown hK hP 1 rfl rfl 0 (by decide) (hts _ mwX1_wrapped_1) (fun _ h9 => h9) rfl dX1_wrapped_15 ?_
  refine lv_iload_n hx hb dX1_wrapped_18 rfl (lv_at hl 1 rfl) ?_
  refine va_iald (D := (dC, dI)) (cl := vwCl) hx hb hK hP 2 0 rfl rfl g_1 dX1_wrapped_19 ?_
  obtain ⟨u2, hu2, hres⟩ := mi_b hres
  refine call_L C0 (run_S C0 (rest := [.long (lw (Int32.toNatClampNeg x1))]) (kX1_rest l (dC, dI) (ty3 cI cJ cZ) (wC q cI cJ cZ nr wd sg lw hg fr to sn pl kd tg sa sb bn mt pa ob tb fo rv ro tk ov sh tu rk cb rlo rhi rl rg tf kn tl th tv) (x2 - (lw (Int32.toNatClampNeg x1))) (wd (Int32.toNatClampNeg x1)) u2 hu2 _) (va_cwS 2 hts gX1_wrapped_X1_rest rfl rfl rfl (by decide +kernel) ⟨by decide, by decide⟩) hP hD rfl hl.1 rfl (Nat.le_of_ble_eq_true rfl) dX1_wrapped_20) hD hS (fun H locs hP hD hS => ?_)
  refine lv_ladd hx hb dX1_wrapped_23 ?_
  obtain rfl := Option.some.inj hres
  exact ret_L (r := ((lw (Int32.toNatClampNeg x1)) + u2)) C0 hP hD hS dX1_wrapped_24
/-! ### SumsOver$Names.fitted(IJ)J -/
set_option maxRecDepth 20000 in
theorem hwX1_fitted_RX1 : ∀ w ∈ u_ws RX1 TX1 5, w ∈ wsX1_fitted := by decide +kernel
theorem mwX1_fitted_0 : (.fieldLink RX1 37 "SumsOver$Names" "nearest" "Z" : Cond) ∈ wsX1_fitted := by decide +kernel
def rmX1_fitted : Room := { frames := 2, cells := 0, slots := 0, locals := 46 }
set_option maxHeartbeats 4000000 in
set_option maxRecDepth 100000 in
theorem kX1_fitted (l : Launch) (dC : Nat → ClassId) (dI : Nat → Nat → Nat) (q : Nat → Nat) (cI cJ cZ : ClassId) (nr : Int32) (wd : Nat → Int32) (sg : Nat → Int32) (lw : Nat → Int64) (hg : Nat → Int64) (fr : Nat → Int32) (to : Nat → Int32) (sn : Int32) (pl : Int32) (kd : Nat → Int32) (tg : Nat → Int32) (sa : Nat → Int32) (sb : Nat → Int32) (bn : Nat → Int32) (mt : Nat → Int32) (pa : Nat → Int32) (ob : Int32) (tb : Int32) (fo : Int32) (rv : Nat → Int64) (ro : Int32) (tk : Int32) (ov : Nat → Int32) (sh : Nat → Int32) (tu : Nat → Int32) (rk : Int32) (cb : Int32) (rlo : Int64) (rhi : Int64) (rl : Nat → Int64) (rg : Nat → Int64) (tf : Int32) (kn : Int32) (tl : Nat → Int64) (th : Nat → Int64) (tv : Nat → Int64) (x1 : Int32) (x2 : Int64) (RES : Int64) (hres : mX1_fitted nr wd lw hg x1 x2 = some RES) : CtL l yX1_fitted wsX1_fitted rmX1_fitted (dC, dI) (ty3 cI cJ cZ) (wC q cI cJ cZ nr wd sg lw hg fr to sn pl kd tg sa sb bn mt pa ob tb fo rv ro tk ov sh tu rk cb rlo rhi rl rg tf kn tl th tv) [.ref (q 1), .int x1, .long x2] RES (wC q cI cJ cZ nr wd sg lw hg fr to sn pl kd tg sa sb bn mt pa ob tb fo rv ro tk ov sh tu rk cb rlo rhi rl rg tf kn tl th tv) := by
  intro sz
  refine ct_entry (cc := cX1_fitted) (maxL := 4) (ret := some .long) (own := RX1) (by decide) rfl rfl (Nat.le_of_ble_eq_true rfl) (ll := [(0, .ref (q 1)), (1, .int x1), (2, .long x2)]) rfl ?_
  intro p e s m args below meth c hsz C0 _ hP hD ls hl
  have C1 := C0
  obtain ⟨hx, hb, hr, hml, hown, hts, hlocks, hN, hK, hA⟩ := C1
  have hS : va_S (va_A (wC q cI cJ cZ nr wd sg lw hg fr to sn pl kd tg sa sb bn mt pa ob tb fo rv ro tk ov sh tu rk cb rlo rhi rl rg tf kn tl th tv) sz) s.heap s.heap [] := va_S.rf
  generalize va_A (wC q cI cJ cZ nr wd sg lw hg fr to sn pl kd tg sa sb bn mt pa ob tb fo rv ro tk ov sh tu rk cb rlo rhi rl rg tf kn tl th tv) sz = A at C0 hD hA hS ⊢
  show W p l e rmX1_fitted s m args below meth c s.heap [] 0 0 (QL below args s A (dC, dI) (ty3 cI cJ cZ) RES (wC q cI cJ cZ nr wd sg lw hg fr to sn pl kd tg sa sb bn mt pa ob tb fo rv ro tk ov sh tu rk cb rlo rhi rl rg tf kn tl th tv)) (F0 m 0 ls [])
  unfold mX1_fitted at hres
  refine lv_aload_n hx hb dX1_fitted_0 rfl (lv_at hl 0 rfl) ?_
  refine va_get (D := (dC, dI)) (ci := 1) (v := .int nr) (C := RX1) (T := TX1) (N := 5) hx hb hts hwX1_fitted_RX1 hown hK hP 1 rfl rfl 4 (by decide) (hts _ mwX1_fitted_0) (fun _ h9 => h9) rfl dX1_fitted_1 ?_
  refine lv_if_eq (tgt := 16) hx hb dX1_fitted_4 (by decide) (fun c_1 => ?_) (fun c_1 => ?_)
  · replace hres := mi_p c_1 hres
    refine lv_aload_n hx hb dX1_fitted_16 rfl (lv_at hl 0 rfl) ?_
    refine lv_iload_n hx hb dX1_fitted_17 rfl (lv_at hl 1 rfl) ?_
    refine lv_lload_n hx hb dX1_fitted_18 rfl (lv_at hl 2 rfl) ?_
    obtain ⟨u2, hu2, hres⟩ := mi_b hres
    refine call_L C0 (run_V C0 (rest := []) (kX1_wrapped l dC dI q cI cJ cZ nr wd sg lw hg fr to sn pl kd tg sa sb bn mt pa ob tb fo rv ro tk ov sh tu rk cb rlo rhi rl rg tf kn tl th tv  x1 x2 u2 hu2 _) (cwV 2 hts gX1_fitted_X1_wrapped rfl rfl rfl (by decide +kernel) ⟨by decide, by decide⟩) hP hD (ci := 1) (q0 := 1) rfl rfl rfl hl.1 rfl (Nat.le_of_ble_eq_true rfl) dX1_fitted_19) hD hS (fun H locs hP hD hS => ?_)
    obtain rfl := Option.some.inj hres
    exact ret_L (r := u2) C0 hP hD hS dX1_fitted_22
  · replace hres := mi_n c_1 hres
    refine lv_aload_n hx hb dX1_fitted_7 rfl (lv_at hl 0 rfl) ?_
    refine lv_iload_n hx hb dX1_fitted_8 rfl (lv_at hl 1 rfl) ?_
    refine lv_lload_n hx hb dX1_fitted_9 rfl (lv_at hl 2 rfl) ?_
    obtain ⟨u3, hu3, hres⟩ := mi_b hres
    refine call_L C0 (run_V C0 (rest := []) (kX1_nearestTo l dC dI q cI cJ cZ nr wd sg lw hg fr to sn pl kd tg sa sb bn mt pa ob tb fo rv ro tk ov sh tu rk cb rlo rhi rl rg tf kn tl th tv  x1 x2 u3 hu3 _) (cwV 2 hts gX1_fitted_X1_nearestTo rfl rfl rfl (by decide +kernel) ⟨by decide, by decide⟩) hP hD (ci := 1) (q0 := 1) rfl rfl rfl hl.1 rfl (Nat.le_of_ble_eq_true rfl) dX1_fitted_10) hD hS (fun H locs hP hD hS => ?_)
    refine lv_goto (tgt := 22) hx hb dX1_fitted_13 (by decide) ?_
    obtain rfl := Option.some.inj hres
    exact ret_L (r := u3) C0 hP hD hS dX1_fitted_22
/-! ### SumsOver$Names.signedAlike(II)Z -/
set_option maxRecDepth 20000 in
theorem hwX1_signedAlike_RX1 : ∀ w ∈ u_ws RX1 TX1 5, w ∈ wsX1_signedAlike := by decide +kernel
theorem mwX1_signedAlike_0 : (.fieldLink RX1 15 "SumsOver$Names" "signs" "[Z" : Cond) ∈ wsX1_signedAlike := by decide +kernel
def rmX1_signedAlike : Room := { frames := 0, cells := 0, slots := 0, locals := 0 }
set_option maxHeartbeats 4000000 in
set_option maxRecDepth 100000 in
theorem kX1_signedAlike (l : Launch) (dC : Nat → ClassId) (dI : Nat → Nat → Nat) (q : Nat → Nat) (cI cJ cZ : ClassId) (nr : Int32) (wd : Nat → Int32) (sg : Nat → Int32) (lw : Nat → Int64) (hg : Nat → Int64) (fr : Nat → Int32) (to : Nat → Int32) (sn : Int32) (pl : Int32) (kd : Nat → Int32) (tg : Nat → Int32) (sa : Nat → Int32) (sb : Nat → Int32) (bn : Nat → Int32) (mt : Nat → Int32) (pa : Nat → Int32) (ob : Int32) (tb : Int32) (fo : Int32) (rv : Nat → Int64) (ro : Int32) (tk : Int32) (ov : Nat → Int32) (sh : Nat → Int32) (tu : Nat → Int32) (rk : Int32) (cb : Int32) (rlo : Int64) (rhi : Int64) (rl : Nat → Int64) (rg : Nat → Int64) (tf : Int32) (kn : Int32) (tl : Nat → Int64) (th : Nat → Int64) (tv : Nat → Int64) (x1 : Int32) (x2 : Int32) (RES : Int32) (hres : mX1_signedAlike sg x1 x2 = some RES) : CtI l yX1_signedAlike wsX1_signedAlike rmX1_signedAlike (dC, dI) (ty3 cI cJ cZ) (wC q cI cJ cZ nr wd sg lw hg fr to sn pl kd tg sa sb bn mt pa ob tb fo rv ro tk ov sh tu rk cb rlo rhi rl rg tf kn tl th tv) [.ref (q 1), .int x1, .int x2] RES (wC q cI cJ cZ nr wd sg lw hg fr to sn pl kd tg sa sb bn mt pa ob tb fo rv ro tk ov sh tu rk cb rlo rhi rl rg tf kn tl th tv) := by
  intro sz
  refine ct_entry (cc := cX1_signedAlike) (maxL := 3) (ret := some .boolean) (own := RX1) (by decide) rfl rfl (Nat.le_of_ble_eq_true rfl) (ll := [(0, .ref (q 1)), (1, .int x1), (2, .int x2)]) rfl ?_
  intro p e s m args below meth c hsz C0 _ hP hD ls hl
  have C1 := C0
  obtain ⟨hx, hb, hr, hml, hown, hts, hlocks, hN, hK, hA⟩ := C1
  have hS : va_S (va_A (wC q cI cJ cZ nr wd sg lw hg fr to sn pl kd tg sa sb bn mt pa ob tb fo rv ro tk ov sh tu rk cb rlo rhi rl rg tf kn tl th tv) sz) s.heap s.heap [] := va_S.rf
  generalize va_A (wC q cI cJ cZ nr wd sg lw hg fr to sn pl kd tg sa sb bn mt pa ob tb fo rv ro tk ov sh tu rk cb rlo rhi rl rg tf kn tl th tv) sz = A at C0 hD hA hS ⊢
  show W p l e rmX1_signedAlike s m args below meth c s.heap [] 0 0 (QI below args s A (dC, dI) (ty3 cI cJ cZ) RES (wC q cI cJ cZ nr wd sg lw hg fr to sn pl kd tg sa sb bn mt pa ob tb fo rv ro tk ov sh tu rk cb rlo rhi rl rg tf kn tl th tv)) (F0 m 0 ls [])
  unfold mX1_signedAlike at hres
  refine lv_aload_n hx hb dX1_signedAlike_0 rfl (lv_at hl 0 rfl) ?_
  refine va_get (D := (dC, dI)) (ci := 1) (v := .ref (q 3)) (C := RX1) (T := TX1) (N := 5) hx hb hts hwX1_signedAlike_RX1 hown hK hP 1 rfl rfl 1 (by decide) (hts _ mwX1_signedAlike_0) (fun _ h9 => h9) rfl dX1_signedAlike_1 ?_
  refine lv_iload_n hx hb dX1_signedAlike_4 rfl (lv_at hl 1 rfl) ?_
  obtain ⟨g_1, hres⟩ := mi_g hres
  refine va_zald (D := (dC, dI)) (cl := vwCl) hx hb hK hP 3 2 rfl rfl g_1 dX1_signedAlike_5 ?_
  refine lv_aload_n hx hb dX1_signedAlike_6 rfl (lv_at hl 0 rfl) ?_
  refine va_get (D := (dC, dI)) (ci := 1) (v := .ref (q 3)) (C := RX1) (T := TX1) (N := 5) hx hb hts hwX1_signedAlike_RX1 hown hK hP 1 rfl rfl 1 (by decide) (hts _ mwX1_signedAlike_0) (fun _ h9 => h9) rfl dX1_signedAlike_7 ?_
  refine lv_iload_n hx hb dX1_signedAlike_10 rfl (lv_at hl 2 rfl) ?_
  obtain ⟨g_2, hres⟩ := mi_g hres
  refine va_zald (D := (dC, dI)) (cl := vwCl) hx hb hK hP 3 2 rfl rfl g_2 dX1_signedAlike_11 ?_
  refine lv_icmp_ne (tgt := 19) hx hb dX1_signedAlike_12 (by decide) (fun c_3 => ?_) (fun c_3 => ?_)
  · replace hres := mi_n c_3 hres
    refine lv_iconst (v := (0 : Int32)) hx hb dX1_signedAlike_19 (by decide) ?_
    obtain rfl := Option.some.inj hres
    exact ret_I (r := (0 : Int32)) C0 rfl hP hD hS dX1_signedAlike_20
  · replace hres := mi_p c_3 hres
    refine lv_iconst (v := (1 : Int32)) hx hb dX1_signedAlike_15 (by decide) ?_
    refine lv_goto (tgt := 20) hx hb dX1_signedAlike_16 (by decide) ?_
    obtain rfl := Option.some.inj hres
    exact ret_I (r := (1 : Int32)) C0 rfl hP hD hS dX1_signedAlike_20
/-! ### SumsOver$Names.belowByRests(IIJJ)J -/
set_option maxRecDepth 20000 in
theorem hwX1_belowByRests_RX1 : ∀ w ∈ u_ws RX1 TX1 5, w ∈ wsX1_belowByRests := by decide +kernel
theorem mwX1_belowByRests_0 : (.fieldLink RX1 9 "SumsOver$Names" "widths" "[I" : Cond) ∈ wsX1_belowByRests := by decide +kernel
theorem mwX1_belowByRests_1 : (.methodLink RX1 61 Lib.Math.max.name : Cond) ∈ wsX1_belowByRests := by decide +kernel
theorem mwX1_belowByRests_2 : (.static Lib.Math.max.name : Cond) ∈ wsX1_belowByRests := by decide +kernel
theorem mwX1_belowByRests_3 : (.initialized "java/lang/Math" : Cond) ∈ wsX1_belowByRests := by decide +kernel
theorem mwX1_belowByRests_4 : (.code Lib.Math.max.name Lib.Math.max.code 2 (some .int) : Cond) ∈ wsX1_belowByRests := by decide +kernel
def rmX1_belowByRests : Room := { frames := 1, cells := 0, slots := 0, locals := 23 }
set_option maxHeartbeats 4000000 in
set_option maxRecDepth 100000 in
theorem kX1_belowByRests (l : Launch) (dC : Nat → ClassId) (dI : Nat → Nat → Nat) (q : Nat → Nat) (cI cJ cZ : ClassId) (nr : Int32) (wd : Nat → Int32) (sg : Nat → Int32) (lw : Nat → Int64) (hg : Nat → Int64) (fr : Nat → Int32) (to : Nat → Int32) (sn : Int32) (pl : Int32) (kd : Nat → Int32) (tg : Nat → Int32) (sa : Nat → Int32) (sb : Nat → Int32) (bn : Nat → Int32) (mt : Nat → Int32) (pa : Nat → Int32) (ob : Int32) (tb : Int32) (fo : Int32) (rv : Nat → Int64) (ro : Int32) (tk : Int32) (ov : Nat → Int32) (sh : Nat → Int32) (tu : Nat → Int32) (rk : Int32) (cb : Int32) (rlo : Int64) (rhi : Int64) (rl : Nat → Int64) (rg : Nat → Int64) (tf : Int32) (kn : Int32) (tl : Nat → Int64) (th : Nat → Int64) (tv : Nat → Int64) (x1 : Int32) (x2 : Int32) (x3 : Int64) (x5 : Int64) (RES : Int64) (hres : mX1_belowByRests wd x1 x2 x3 x5 = some RES) : CtL l yX1_belowByRests wsX1_belowByRests rmX1_belowByRests (dC, dI) (ty3 cI cJ cZ) (wC q cI cJ cZ nr wd sg lw hg fr to sn pl kd tg sa sb bn mt pa ob tb fo rv ro tk ov sh tu rk cb rlo rhi rl rg tf kn tl th tv) [.ref (q 1), .int x1, .int x2, .long x3, .long x5] RES (wC q cI cJ cZ nr wd sg lw hg fr to sn pl kd tg sa sb bn mt pa ob tb fo rv ro tk ov sh tu rk cb rlo rhi rl rg tf kn tl th tv) := by
  intro sz
  refine ct_entry (cc := cX1_belowByRests) (maxL := 8) (ret := some .long) (own := RX1) (by decide) rfl rfl (Nat.le_of_ble_eq_true rfl) (ll := [(0, .ref (q 1)), (1, .int x1), (2, .int x2), (3, .long x3), (5, .long x5)]) rfl ?_
  intro p e s m args below meth c hsz C0 _ hP hD ls hl
  have C1 := C0
  obtain ⟨hx, hb, hr, hml, hown, hts, hlocks, hN, hK, hA⟩ := C1
  have hS : va_S (va_A (wC q cI cJ cZ nr wd sg lw hg fr to sn pl kd tg sa sb bn mt pa ob tb fo rv ro tk ov sh tu rk cb rlo rhi rl rg tf kn tl th tv) sz) s.heap s.heap [] := va_S.rf
  generalize va_A (wC q cI cJ cZ nr wd sg lw hg fr to sn pl kd tg sa sb bn mt pa ob tb fo rv ro tk ov sh tu rk cb rlo rhi rl rg tf kn tl th tv) sz = A at C0 hD hA hS ⊢
  show W p l e rmX1_belowByRests s m args below meth c s.heap [] 0 0 (QL below args s A (dC, dI) (ty3 cI cJ cZ) RES (wC q cI cJ cZ nr wd sg lw hg fr to sn pl kd tg sa sb bn mt pa ob tb fo rv ro tk ov sh tu rk cb rlo rhi rl rg tf kn tl th tv)) (F0 m 0 ls [])
  unfold mX1_belowByRests at hres
  refine lv_aload_n hx hb dX1_belowByRests_0 rfl (lv_at hl 0 rfl) ?_
  refine va_get (D := (dC, dI)) (ci := 1) (v := .ref (q 2)) (C := RX1) (T := TX1) (N := 5) hx hb hts hwX1_belowByRests_RX1 hown hK hP 1 rfl rfl 0 (by decide) (hts _ mwX1_belowByRests_0) (fun _ h9 => h9) rfl dX1_belowByRests_1 ?_
  refine lv_iload_n hx hb dX1_belowByRests_4 rfl (lv_at hl 1 rfl) ?_
  obtain ⟨g_1, hres⟩ := mi_g hres
  refine va_iald (D := (dC, dI)) (cl := vwCl) hx hb hK hP 2 0 rfl rfl g_1 dX1_belowByRests_5 ?_
  refine lv_aload_n hx hb dX1_belowByRests_6 rfl (lv_at hl 0 rfl) ?_
  refine va_get (D := (dC, dI)) (ci := 1) (v := .ref (q 2)) (C := RX1) (T := TX1) (N := 5) hx hb hts hwX1_belowByRests_RX1 hown hK hP 1 rfl rfl 0 (by decide) (hts _ mwX1_belowByRests_0) (fun _ h9 => h9) rfl dX1_belowByRests_7 ?_
  refine lv_iload_n hx hb dX1_belowByRests_10 rfl (lv_at hl 2 rfl) ?_
  obtain ⟨g_2, hres⟩ := mi_g hres
  refine va_iald (D := (dC, dI)) (cl := vwCl) hx hb hK hP 2 0 rfl rfl g_2 dX1_belowByRests_11 ?_
  refine va_mmax hx hb (hml.trans hl.1.symm) hown (hts _ mwX1_belowByRests_1) (hts _ mwX1_belowByRests_2) (hts _ mwX1_belowByRests_3) (hts _ mwX1_belowByRests_4) (Nat.le_of_ble_eq_true rfl) (Nat.le_of_ble_eq_true rfl) (Nat.zero_le _) (Nat.zero_le _) dX1_belowByRests_12 ?_
  refine lv_istore (lv' := [(7, .int (if (wd (Int32.toNatClampNeg x1)) < (wd (Int32.toNatClampNeg x2)) then (wd (Int32.toNatClampNeg x2)) else (wd (Int32.toNatClampNeg x1)))), (0, .ref (q 1)), (1, .int x1), (2, .int x2), (3, .long x3), (5, .long x5)]) hx hb dX1_belowByRests_15 hl (by decide) rfl (fun ls hl => ?_)
  refine lv_lload_n hx hb dX1_belowByRests_17 rfl (lv_at hl 4 rfl) ?_
  refine lv_iload hx hb dX1_belowByRests_18 (lv_at hl 0 rfl) ?_
  obtain ⟨u3, hu3, hres⟩ := mi_b hres
  refine call_L C0 (run_S C0 (rest := []) (kX1_rest l (dC, dI) (ty3 cI cJ cZ) (wC q cI cJ cZ nr wd sg lw hg fr to sn pl kd tg sa sb bn mt pa ob tb fo rv ro tk ov sh tu rk cb rlo rhi rl rg tf kn tl th tv) x3 (if (wd (Int32.toNatClampNeg x1)) < (wd (Int32.toNatClampNeg x2)) then (wd (Int32.toNatClampNeg x2)) else (wd (Int32.toNatClampNeg x1))) u3 hu3 _) (va_cwS 2 hts gX1_belowByRests_X1_rest rfl rfl rfl (by decide +kernel) ⟨by decide, by decide⟩) hP hD rfl hl.1 rfl (Nat.le_of_ble_eq_true rfl) dX1_belowByRests_20) hD hS (fun H locs hP hD hS => ?_)
  refine lv_lload hx hb dX1_belowByRests_23 (lv_at hl 5 rfl) ?_
  refine lv_iload hx hb dX1_belowByRests_25 (lv_at hl 0 rfl) ?_
  obtain ⟨u4, hu4, hres⟩ := mi_b hres
  refine call_L C0 (run_S C0 (rest := [.long u3]) (kX1_rest l (dC, dI) (ty3 cI cJ cZ) (wC q cI cJ cZ nr wd sg lw hg fr to sn pl kd tg sa sb bn mt pa ob tb fo rv ro tk ov sh tu rk cb rlo rhi rl rg tf kn tl th tv) x5 (if (wd (Int32.toNatClampNeg x1)) < (wd (Int32.toNatClampNeg x2)) then (wd (Int32.toNatClampNeg x2)) else (wd (Int32.toNatClampNeg x1))) u4 hu4 _) (va_cwS 2 hts gX1_belowByRests_X1_rest rfl rfl rfl (by decide +kernel) ⟨by decide, by decide⟩) hP hD rfl hl.1 rfl (Nat.le_of_ble_eq_true rfl) dX1_belowByRests_27) hD hS (fun H locs hP hD hS => ?_)
  refine W.lcmp hx hb dX1_belowByRests_30 ?_
  refine lv_if_ge (tgt := 38) hx hb dX1_belowByRests_31 (by decide) (fun c_5 => ?_) (fun c_5 => ?_)
  · rw [lg_cmp_ge] at c_5
    replace hres := mi_p c_5 hres
    refine lv_lconst (v := (0 : Int64)) hx hb dX1_belowByRests_38 (by decide) ?_
    obtain rfl := Option.some.inj hres
    exact ret_L (r := (0 : Int64)) C0 hP hD hS dX1_belowByRests_39
  · rw [lg_cmp_ge] at c_5
    replace hres := mi_n c_5 hres
    refine lv_lconst (v := (1 : Int64)) hx hb dX1_belowByRests_34 (by decide) ?_
    refine lv_goto (tgt := 39) hx hb dX1_belowByRests_35 (by decide) ?_
    obtain rfl := Option.some.inj hres
    exact ret_L (r := (1 : Int64)) C0 hP hD hS dX1_belowByRests_39
/-! ### SumsOver$Reach.couldGoOver(I)Z -/
set_option maxRecDepth 20000 in
theorem hwX2_couldGoOver_RX2 : ∀ w ∈ u_ws RX2 TX2 9, w ∈ wsX2_couldGoOver := by decide +kernel
theorem mwX2_couldGoOver_0 : (.fieldLink RX2 30 "SumsOver$Reach" "couldBits" "I" : Cond) ∈ wsX2_couldGoOver := by decide +kernel
def rmX2_couldGoOver : Room := { frames := 0, cells := 0, slots := 0, locals := 0 }
set_option maxHeartbeats 4000000 in
set_option maxRecDepth 100000 in
theorem kX2_couldGoOver (l : Launch) (dC : Nat → ClassId) (dI : Nat → Nat → Nat) (q : Nat → Nat) (cI cJ cZ : ClassId) (nr : Int32) (wd : Nat → Int32) (sg : Nat → Int32) (lw : Nat → Int64) (hg : Nat → Int64) (fr : Nat → Int32) (to : Nat → Int32) (sn : Int32) (pl : Int32) (kd : Nat → Int32) (tg : Nat → Int32) (sa : Nat → Int32) (sb : Nat → Int32) (bn : Nat → Int32) (mt : Nat → Int32) (pa : Nat → Int32) (ob : Int32) (tb : Int32) (fo : Int32) (rv : Nat → Int64) (ro : Int32) (tk : Int32) (ov : Nat → Int32) (sh : Nat → Int32) (tu : Nat → Int32) (rk : Int32) (cb : Int32) (rlo : Int64) (rhi : Int64) (rl : Nat → Int64) (rg : Nat → Int64) (tf : Int32) (kn : Int32) (tl : Nat → Int64) (th : Nat → Int64) (tv : Nat → Int64) (x1 : Int32) (RES : Int32) (hres : mX2_couldGoOver cb x1 = some RES) : CtI l yX2_couldGoOver wsX2_couldGoOver rmX2_couldGoOver (dC, dI) (ty3 cI cJ cZ) (wC q cI cJ cZ nr wd sg lw hg fr to sn pl kd tg sa sb bn mt pa ob tb fo rv ro tk ov sh tu rk cb rlo rhi rl rg tf kn tl th tv) [.ref (q 23), .int x1] RES (wC q cI cJ cZ nr wd sg lw hg fr to sn pl kd tg sa sb bn mt pa ob tb fo rv ro tk ov sh tu rk cb rlo rhi rl rg tf kn tl th tv) := by
  intro sz
  refine ct_entry (cc := cX2_couldGoOver) (maxL := 2) (ret := some .boolean) (own := RX2) (by decide) rfl rfl (Nat.le_of_ble_eq_true rfl) (ll := [(0, .ref (q 23)), (1, .int x1)]) rfl ?_
  intro p e s m args below meth c hsz C0 _ hP hD ls hl
  have C1 := C0
  obtain ⟨hx, hb, hr, hml, hown, hts, hlocks, hN, hK, hA⟩ := C1
  have hS : va_S (va_A (wC q cI cJ cZ nr wd sg lw hg fr to sn pl kd tg sa sb bn mt pa ob tb fo rv ro tk ov sh tu rk cb rlo rhi rl rg tf kn tl th tv) sz) s.heap s.heap [] := va_S.rf
  generalize va_A (wC q cI cJ cZ nr wd sg lw hg fr to sn pl kd tg sa sb bn mt pa ob tb fo rv ro tk ov sh tu rk cb rlo rhi rl rg tf kn tl th tv) sz = A at C0 hD hA hS ⊢
  show W p l e rmX2_couldGoOver s m args below meth c s.heap [] 0 0 (QI below args s A (dC, dI) (ty3 cI cJ cZ) RES (wC q cI cJ cZ nr wd sg lw hg fr to sn pl kd tg sa sb bn mt pa ob tb fo rv ro tk ov sh tu rk cb rlo rhi rl rg tf kn tl th tv)) (F0 m 0 ls [])
  unfold mX2_couldGoOver at hres
  refine lv_aload_n hx hb dX2_couldGoOver_0 rfl (lv_at hl 0 rfl) ?_
  refine va_get (D := (dC, dI)) (ci := 2) (v := .int cb) (C := RX2) (T := TX2) (N := 9) hx hb hts hwX2_couldGoOver_RX2 hown hK hP 23 rfl rfl 3 (by decide) (hts _ mwX2_couldGoOver_0) (fun _ h9 => h9) rfl dX2_couldGoOver_1 ?_
  refine lv_iload_n hx hb dX2_couldGoOver_4 rfl (lv_at hl 1 rfl) ?_
  refine lv_ishr hx hb dX2_couldGoOver_5 ?_
  refine lv_iconst (v := (1 : Int32)) hx hb dX2_couldGoOver_6 (by decide) ?_
  refine lv_iand hx hb dX2_couldGoOver_7 ?_
  refine lv_iconst (v := (1 : Int32)) hx hb dX2_couldGoOver_8 (by decide) ?_
  refine lv_icmp_ne (tgt := 16) hx hb dX2_couldGoOver_9 (by decide) (fun c_1 => ?_) (fun c_1 => ?_)
  · replace hres := mi_n c_1 hres
    refine lv_iconst (v := (0 : Int32)) hx hb dX2_couldGoOver_16 (by decide) ?_
    obtain rfl := Option.some.inj hres
    exact ret_I (r := (0 : Int32)) C0 rfl hP hD hS dX2_couldGoOver_17
  · replace hres := mi_p c_1 hres
    refine lv_iconst (v := (1 : Int32)) hx hb dX2_couldGoOver_12 (by decide) ?_
    refine lv_goto (tgt := 17) hx hb dX2_couldGoOver_13 (by decide) ?_
    obtain rfl := Option.some.inj hres
    exact ret_I (r := (1 : Int32)) C0 rfl hP hD hS dX2_couldGoOver_17
/-! ### SumsOver$Reach.fits(I)Z -/
set_option maxRecDepth 20000 in
theorem hwX2_fits_RX2 : ∀ w ∈ u_ws RX2 TX2 9, w ∈ wsX2_fits := by decide +kernel
theorem mwX2_fits_0 : (.fieldLink RX2 18 "SumsOver$Reach" "names" "LSumsOver$Names;" : Cond) ∈ wsX2_fits := by decide +kernel
theorem mwX2_fits_1 : (.fieldLink RX2 50 "SumsOver$Reach" "low" "J" : Cond) ∈ wsX2_fits := by decide +kernel
theorem mwX2_fits_2 : (.fieldLink RX2 57 "SumsOver$Reach" "high" "J" : Cond) ∈ wsX2_fits := by decide +kernel
def rmX2_fits : Room := { frames := 1, cells := 0, slots := 0, locals := 23 }
set_option maxHeartbeats 4000000 in
set_option maxRecDepth 100000 in
theorem kX2_fits (l : Launch) (dC : Nat → ClassId) (dI : Nat → Nat → Nat) (q : Nat → Nat) (cI cJ cZ : ClassId) (nr : Int32) (wd : Nat → Int32) (sg : Nat → Int32) (lw : Nat → Int64) (hg : Nat → Int64) (fr : Nat → Int32) (to : Nat → Int32) (sn : Int32) (pl : Int32) (kd : Nat → Int32) (tg : Nat → Int32) (sa : Nat → Int32) (sb : Nat → Int32) (bn : Nat → Int32) (mt : Nat → Int32) (pa : Nat → Int32) (ob : Int32) (tb : Int32) (fo : Int32) (rv : Nat → Int64) (ro : Int32) (tk : Int32) (ov : Nat → Int32) (sh : Nat → Int32) (tu : Nat → Int32) (rk : Int32) (cb : Int32) (rlo : Int64) (rhi : Int64) (rl : Nat → Int64) (rg : Nat → Int64) (tf : Int32) (kn : Int32) (tl : Nat → Int64) (th : Nat → Int64) (tv : Nat → Int64) (x1 : Int32) (RES : Int32) (hres : mX2_fits lw hg rlo rhi x1 = some RES) : CtI l yX2_fits wsX2_fits rmX2_fits (dC, dI) (ty3 cI cJ cZ) (wC q cI cJ cZ nr wd sg lw hg fr to sn pl kd tg sa sb bn mt pa ob tb fo rv ro tk ov sh tu rk cb rlo rhi rl rg tf kn tl th tv) [.ref (q 23), .int x1] RES (wC q cI cJ cZ nr wd sg lw hg fr to sn pl kd tg sa sb bn mt pa ob tb fo rv ro tk ov sh tu rk cb rlo rhi rl rg tf kn tl th tv) := by
  intro sz
  refine ct_entry (cc := cX2_fits) (maxL := 2) (ret := some .boolean) (own := RX2) (by decide) rfl rfl (Nat.le_of_ble_eq_true rfl) (ll := [(0, .ref (q 23)), (1, .int x1)]) rfl ?_
  intro p e s m args below meth c hsz C0 _ hP hD ls hl
  have C1 := C0
  obtain ⟨hx, hb, hr, hml, hown, hts, hlocks, hN, hK, hA⟩ := C1
  have hS : va_S (va_A (wC q cI cJ cZ nr wd sg lw hg fr to sn pl kd tg sa sb bn mt pa ob tb fo rv ro tk ov sh tu rk cb rlo rhi rl rg tf kn tl th tv) sz) s.heap s.heap [] := va_S.rf
  generalize va_A (wC q cI cJ cZ nr wd sg lw hg fr to sn pl kd tg sa sb bn mt pa ob tb fo rv ro tk ov sh tu rk cb rlo rhi rl rg tf kn tl th tv) sz = A at C0 hD hA hS ⊢
  show W p l e rmX2_fits s m args below meth c s.heap [] 0 0 (QI below args s A (dC, dI) (ty3 cI cJ cZ) RES (wC q cI cJ cZ nr wd sg lw hg fr to sn pl kd tg sa sb bn mt pa ob tb fo rv ro tk ov sh tu rk cb rlo rhi rl rg tf kn tl th tv)) (F0 m 0 ls [])
  unfold mX2_fits at hres
  refine lv_aload_n hx hb dX2_fits_0 rfl (lv_at hl 0 rfl) ?_
  refine va_get (D := (dC, dI)) (ci := 2) (v := .ref (q 1)) (C := RX2) (T := TX2) (N := 9) hx hb hts hwX2_fits_RX2 hown hK hP 23 rfl rfl 6 (by decide) (hts _ mwX2_fits_0) (fun _ h9 => h9) rfl dX2_fits_1 ?_
  refine lv_iload_n hx hb dX2_fits_4 rfl (lv_at hl 1 rfl) ?_
  refine lv_aload_n hx hb dX2_fits_5 rfl (lv_at hl 0 rfl) ?_
  refine va_get (D := (dC, dI)) (ci := 2) (v := .long rlo) (C := RX2) (T := TX2) (N := 9) hx hb hts hwX2_fits_RX2 hown hK hP 23 rfl rfl 4 (by decide) (hts _ mwX2_fits_1) (fun _ h9 => h9) rfl dX2_fits_6 ?_
  obtain ⟨u1, hu1, hres⟩ := mi_b hres
  refine call_I C0 (run_V C0 (rest := []) (kX1_holds l dC dI q cI cJ cZ nr wd sg lw hg fr to sn pl kd tg sa sb bn mt pa ob tb fo rv ro tk ov sh tu rk cb rlo rhi rl rg tf kn tl th tv  x1 rlo u1 hu1 _) (cwV 2 hts gX2_fits_X1_holds rfl rfl rfl (by decide +kernel) ⟨by decide, by decide⟩) hP hD (ci := 1) (q0 := 1) rfl rfl rfl hl.1 rfl (Nat.le_of_ble_eq_true rfl) dX2_fits_9) hD hS (fun H locs hP hD hS => ?_)
  refine lv_if_eq (tgt := 34) hx hb dX2_fits_12 (by decide) (fun c_2 => ?_) (fun c_2 => ?_)
  · replace hres := mi_p c_2 hres
    refine lv_iconst (v := (0 : Int32)) hx hb dX2_fits_34 (by decide) ?_
    obtain rfl := Option.some.inj hres
    exact ret_I (r := (0 : Int32)) C0 rfl hP hD hS dX2_fits_35
  · replace hres := mi_n c_2 hres
    refine lv_aload_n hx hb dX2_fits_15 rfl (lv_at hl 0 rfl) ?_
    refine va_get (D := (dC, dI)) (ci := 2) (v := .ref (q 1)) (C := RX2) (T := TX2) (N := 9) hx hb hts hwX2_fits_RX2 hown hK hP 23 rfl rfl 6 (by decide) (hts _ mwX2_fits_0) (fun _ h9 => h9) rfl dX2_fits_16 ?_
    refine lv_iload_n hx hb dX2_fits_19 rfl (lv_at hl 1 rfl) ?_
    refine lv_aload_n hx hb dX2_fits_20 rfl (lv_at hl 0 rfl) ?_
    refine va_get (D := (dC, dI)) (ci := 2) (v := .long rhi) (C := RX2) (T := TX2) (N := 9) hx hb hts hwX2_fits_RX2 hown hK hP 23 rfl rfl 5 (by decide) (hts _ mwX2_fits_2) (fun _ h9 => h9) rfl dX2_fits_21 ?_
    obtain ⟨u3, hu3, hres⟩ := mi_b hres
    refine call_I C0 (run_V C0 (rest := []) (kX1_holds l dC dI q cI cJ cZ nr wd sg lw hg fr to sn pl kd tg sa sb bn mt pa ob tb fo rv ro tk ov sh tu rk cb rlo rhi rl rg tf kn tl th tv  x1 rhi u3 hu3 _) (cwV 2 hts gX2_fits_X1_holds rfl rfl rfl (by decide +kernel) ⟨by decide, by decide⟩) hP hD (ci := 1) (q0 := 1) rfl rfl rfl hl.1 rfl (Nat.le_of_ble_eq_true rfl) dX2_fits_24) hD hS (fun H locs hP hD hS => ?_)
    refine lv_if_eq (tgt := 34) hx hb dX2_fits_27 (by decide) (fun c_4 => ?_) (fun c_4 => ?_)
    · replace hres := mi_p c_4 hres
      refine lv_iconst (v := (0 : Int32)) hx hb dX2_fits_34 (by decide) ?_
      obtain rfl := Option.some.inj hres
      exact ret_I (r := (0 : Int32)) C0 rfl hP hD hS dX2_fits_35
    · replace hres := mi_n c_4 hres
      refine lv_iconst (v := (1 : Int32)) hx hb dX2_fits_30 (by decide) ?_
      refine lv_goto (tgt := 35) hx hb dX2_fits_31 (by decide) ?_
      obtain rfl := Option.some.inj hres
      exact ret_I (r := (1 : Int32)) C0 rfl hP hD hS dX2_fits_35
/-! ### SumsOver$Reach.settle(I)V -/
set_option maxRecDepth 20000 in
theorem hwX2_settle_RX2 : ∀ w ∈ u_ws RX2 TX2 9, w ∈ wsX2_settle := by decide +kernel
theorem mwX2_settle_0 : (.fieldLink RX2 18 "SumsOver$Reach" "names" "LSumsOver$Names;" : Cond) ∈ wsX2_settle := by decide +kernel
set_option maxRecDepth 20000 in
theorem hwX2_settle_RX1 : ∀ w ∈ u_ws RX1 TX1 5, w ∈ wsX2_settle := by decide +kernel
theorem mwX2_settle_1 : (.fieldLink RX2 91 "SumsOver$Names" "nearest" "Z" : Cond) ∈ wsX2_settle := by decide +kernel
theorem mwX2_settle_2 : (.fieldLink RX2 9 "SumsOver$Reach" "least" "[J" : Cond) ∈ wsX2_settle := by decide +kernel
theorem mwX2_settle_3 : (.fieldLink RX2 98 "SumsOver$Names" "least" "[J" : Cond) ∈ wsX2_settle := by decide +kernel
theorem mwX2_settle_4 : (.fieldLink RX2 15 "SumsOver$Reach" "greatest" "[J" : Cond) ∈ wsX2_settle := by decide +kernel
theorem mwX2_settle_5 : (.fieldLink RX2 99 "SumsOver$Names" "greatest" "[J" : Cond) ∈ wsX2_settle := by decide +kernel
theorem mwX2_settle_6 : (.fieldLink RX2 50 "SumsOver$Reach" "low" "J" : Cond) ∈ wsX2_settle := by decide +kernel
theorem mwX2_settle_7 : (.fieldLink RX2 57 "SumsOver$Reach" "high" "J" : Cond) ∈ wsX2_settle := by decide +kernel
def rmX2_settle : Room := { frames := 2, cells := 0, slots := 0, locals := 46 }
set_option maxHeartbeats 4000000 in
set_option maxRecDepth 100000 in
theorem kX2_settle (l : Launch) (dC : Nat → ClassId) (dI : Nat → Nat → Nat) (q : Nat → Nat) (cI cJ cZ : ClassId) (nr : Int32) (wd : Nat → Int32) (sg : Nat → Int32) (lw : Nat → Int64) (hg : Nat → Int64) (fr : Nat → Int32) (to : Nat → Int32) (sn : Int32) (pl : Int32) (kd : Nat → Int32) (tg : Nat → Int32) (sa : Nat → Int32) (sb : Nat → Int32) (bn : Nat → Int32) (mt : Nat → Int32) (pa : Nat → Int32) (ob : Int32) (tb : Int32) (fo : Int32) (rv : Nat → Int64) (ro : Int32) (tk : Int32) (ov : Nat → Int32) (sh : Nat → Int32) (tu : Nat → Int32) (rk : Int32) (cb : Int32) (rlo : Int64) (rhi : Int64) (rl : Nat → Int64) (rg : Nat → Int64) (tf : Int32) (kn : Int32) (tl : Nat → Int64) (th : Nat → Int64) (tv : Nat → Int64) (x1 : Int32) (RES : (Nat → Int64) × (Nat → Int64)) (hres : mX2_settle nr lw hg rlo rhi rl rg x1 = some RES) : CtV l yX2_settle wsX2_settle rmX2_settle (dC, dI) (ty3 cI cJ cZ) (wC q cI cJ cZ nr wd sg lw hg fr to sn pl kd tg sa sb bn mt pa ob tb fo rv ro tk ov sh tu rk cb rlo rhi rl rg tf kn tl th tv) [.ref (q 23), .int x1] (wC q cI cJ cZ nr wd sg lw hg fr to sn pl kd tg sa sb bn mt pa ob tb fo rv ro tk ov sh tu rk cb rlo rhi RES.1 RES.2 tf kn tl th tv) := by
  intro sz
  refine ct_entry (cc := cX2_settle) (maxL := 2) (ret := none) (own := RX2) (by decide) rfl rfl (Nat.le_of_ble_eq_true rfl) (ll := [(0, .ref (q 23)), (1, .int x1)]) rfl ?_
  intro p e s m args below meth c hsz C0 _ hP hD ls hl
  have C1 := C0
  obtain ⟨hx, hb, hr, hml, hown, hts, hlocks, hN, hK, hA⟩ := C1
  have hS : va_S (va_A (wC q cI cJ cZ nr wd sg lw hg fr to sn pl kd tg sa sb bn mt pa ob tb fo rv ro tk ov sh tu rk cb rlo rhi rl rg tf kn tl th tv) sz) s.heap s.heap [] := va_S.rf
  generalize va_A (wC q cI cJ cZ nr wd sg lw hg fr to sn pl kd tg sa sb bn mt pa ob tb fo rv ro tk ov sh tu rk cb rlo rhi rl rg tf kn tl th tv) sz = A at C0 hD hA hS ⊢
  show W p l e rmX2_settle s m args below meth c s.heap [] 0 0 (QV below args s A (dC, dI) (ty3 cI cJ cZ) (wC q cI cJ cZ nr wd sg lw hg fr to sn pl kd tg sa sb bn mt pa ob tb fo rv ro tk ov sh tu rk cb rlo rhi RES.1 RES.2 tf kn tl th tv)) (F0 m 0 ls [])
  unfold mX2_settle at hres
  refine lv_aload_n hx hb dX2_settle_0 rfl (lv_at hl 0 rfl) ?_
  refine lv_iload_n hx hb dX2_settle_1 rfl (lv_at hl 1 rfl) ?_
  obtain ⟨u1, hu1, hres⟩ := mi_b hres
  refine call_I C0 (run_V C0 (rest := []) (kX2_fits l dC dI q cI cJ cZ nr wd sg lw hg fr to sn pl kd tg sa sb bn mt pa ob tb fo rv ro tk ov sh tu rk cb rlo rhi rl rg tf kn tl th tv  x1 u1 hu1 _) (cwV 1 hts gX2_settle_X2_fits rfl rfl rfl (by decide +kernel) ⟨by decide, by decide⟩) hP hD (ci := 2) (q0 := 23) rfl rfl rfl hl.1 rfl (Nat.le_of_ble_eq_true rfl) dX2_settle_2) hD hS (fun H locs hP hD hS => ?_)
  refine lv_if_eq (tgt := 31) hx hb dX2_settle_5 (by decide) (fun c_2 => ?_) (fun c_2 => ?_)
  · replace hres := mi_p c_2 hres
    refine lv_aload_n hx hb dX2_settle_31 rfl (lv_at hl 0 rfl) ?_
    refine va_get (D := (dC, dI)) (ci := 2) (v := .ref (q 1)) (C := RX2) (T := TX2) (N := 9) hx hb hts hwX2_settle_RX2 hown hK hP 23 rfl rfl 6 (by decide) (hts _ mwX2_settle_0) (fun _ h9 => h9) rfl dX2_settle_32 ?_
    refine va_get (D := (dC, dI)) (ci := 1) (v := .int nr) (C := RX1) (T := TX1) (N := 5) hx hb hts hwX2_settle_RX1 hown hK hP 1 rfl rfl 4 (by decide) (hts _ mwX2_settle_1) (fun _ h9 => h9) rfl dX2_settle_35 ?_
    refine lv_if_eq (tgt := 80) hx hb dX2_settle_38 (by decide) (fun c_3 => ?_) (fun c_3 => ?_)
    · replace hres := mi_p c_3 hres
      refine lv_aload_n hx hb dX2_settle_80 rfl (lv_at hl 0 rfl) ?_
      refine va_get (D := (dC, dI)) (ci := 2) (v := .ref (q 24)) (C := RX2) (T := TX2) (N := 9) hx hb hts hwX2_settle_RX2 hown hK hP 23 rfl rfl 0 (by decide) (hts _ mwX2_settle_2) (fun _ h9 => h9) rfl dX2_settle_81 ?_
      refine lv_iload_n hx hb dX2_settle_84 rfl (lv_at hl 1 rfl) ?_
      refine lv_aload_n hx hb dX2_settle_85 rfl (lv_at hl 0 rfl) ?_
      refine va_get (D := (dC, dI)) (ci := 2) (v := .ref (q 1)) (C := RX2) (T := TX2) (N := 9) hx hb hts hwX2_settle_RX2 hown hK hP 23 rfl rfl 6 (by decide) (hts _ mwX2_settle_0) (fun _ h9 => h9) rfl dX2_settle_86 ?_
      refine va_get (D := (dC, dI)) (ci := 1) (v := .ref (q 4)) (C := RX1) (T := TX1) (N := 5) hx hb hts hwX2_settle_RX1 hown hK hP 1 rfl rfl 2 (by decide) (hts _ mwX2_settle_3) (fun _ h9 => h9) rfl dX2_settle_89 ?_
      refine lv_iload_n hx hb dX2_settle_92 rfl (lv_at hl 1 rfl) ?_
      obtain ⟨g_4, hres⟩ := mi_g hres
      refine va_lald (D := (dC, dI)) (cl := vwCl) hx hb hK hP 4 1 rfl rfl g_4 dX2_settle_93 ?_
      refine va_last (D := (dC, dI)) (cl := vwCl) hx hb hK hP hD hS 24 1 rfl rfl g_4 dX2_settle_94 (fun H locs hP hD hS => ?_)
      have hP : va_P (dC, dI) vwCl (wC q cI cJ cZ nr wd sg lw hg fr to sn pl kd tg sa sb bn mt pa ob tb fo rv ro tk ov sh tu rk cb rlo rhi (vp_updL rl (Int32.toNatClampNeg x1) (lw (Int32.toNatClampNeg x1))) rg tf kn tl th tv) H := hP
      have hD : va_D A (wC q cI cJ cZ nr wd sg lw hg fr to sn pl kd tg sa sb bn mt pa ob tb fo rv ro tk ov sh tu rk cb rlo rhi (vp_updL rl (Int32.toNatClampNeg x1) (lw (Int32.toNatClampNeg x1))) rg tf kn tl th tv) := hD
      refine lv_aload_n hx hb dX2_settle_95 rfl (lv_at hl 0 rfl) ?_
      refine va_get (D := (dC, dI)) (ci := 2) (v := .ref (q 25)) (C := RX2) (T := TX2) (N := 9) hx hb hts hwX2_settle_RX2 hown hK hP 23 rfl rfl 1 (by decide) (hts _ mwX2_settle_4) (fun _ h9 => h9) rfl dX2_settle_96 ?_
      refine lv_iload_n hx hb dX2_settle_99 rfl (lv_at hl 1 rfl) ?_
      refine lv_aload_n hx hb dX2_settle_100 rfl (lv_at hl 0 rfl) ?_
      refine va_get (D := (dC, dI)) (ci := 2) (v := .ref (q 1)) (C := RX2) (T := TX2) (N := 9) hx hb hts hwX2_settle_RX2 hown hK hP 23 rfl rfl 6 (by decide) (hts _ mwX2_settle_0) (fun _ h9 => h9) rfl dX2_settle_101 ?_
      refine va_get (D := (dC, dI)) (ci := 1) (v := .ref (q 5)) (C := RX1) (T := TX1) (N := 5) hx hb hts hwX2_settle_RX1 hown hK hP 1 rfl rfl 3 (by decide) (hts _ mwX2_settle_5) (fun _ h9 => h9) rfl dX2_settle_104 ?_
      refine lv_iload_n hx hb dX2_settle_107 rfl (lv_at hl 1 rfl) ?_
      refine va_lald (D := (dC, dI)) (cl := vwCl) hx hb hK hP 5 1 rfl rfl g_4 dX2_settle_108 ?_
      refine va_last (D := (dC, dI)) (cl := vwCl) hx hb hK hP hD hS 25 1 rfl rfl g_4 dX2_settle_109 (fun H locs hP hD hS => ?_)
      have hP : va_P (dC, dI) vwCl (wC q cI cJ cZ nr wd sg lw hg fr to sn pl kd tg sa sb bn mt pa ob tb fo rv ro tk ov sh tu rk cb rlo rhi (vp_updL rl (Int32.toNatClampNeg x1) (lw (Int32.toNatClampNeg x1))) (vp_updL rg (Int32.toNatClampNeg x1) (hg (Int32.toNatClampNeg x1))) tf kn tl th tv) H := hP
      have hD : va_D A (wC q cI cJ cZ nr wd sg lw hg fr to sn pl kd tg sa sb bn mt pa ob tb fo rv ro tk ov sh tu rk cb rlo rhi (vp_updL rl (Int32.toNatClampNeg x1) (lw (Int32.toNatClampNeg x1))) (vp_updL rg (Int32.toNatClampNeg x1) (hg (Int32.toNatClampNeg x1))) tf kn tl th tv) := hD
      obtain rfl := Option.some.inj hres
      exact ret_V C0 hP hD hS dX2_settle_110
    · replace hres := mi_n c_3 hres
      refine lv_aload_n hx hb dX2_settle_41 rfl (lv_at hl 0 rfl) ?_
      refine va_get (D := (dC, dI)) (ci := 2) (v := .ref (q 24)) (C := RX2) (T := TX2) (N := 9) hx hb hts hwX2_settle_RX2 hown hK hP 23 rfl rfl 0 (by decide) (hts _ mwX2_settle_2) (fun _ h9 => h9) rfl dX2_settle_42 ?_
      refine lv_iload_n hx hb dX2_settle_45 rfl (lv_at hl 1 rfl) ?_
      refine lv_aload_n hx hb dX2_settle_46 rfl (lv_at hl 0 rfl) ?_
      refine va_get (D := (dC, dI)) (ci := 2) (v := .ref (q 1)) (C := RX2) (T := TX2) (N := 9) hx hb hts hwX2_settle_RX2 hown hK hP 23 rfl rfl 6 (by decide) (hts _ mwX2_settle_0) (fun _ h9 => h9) rfl dX2_settle_47 ?_
      refine lv_iload_n hx hb dX2_settle_50 rfl (lv_at hl 1 rfl) ?_
      refine lv_aload_n hx hb dX2_settle_51 rfl (lv_at hl 0 rfl) ?_
      refine va_get (D := (dC, dI)) (ci := 2) (v := .long rlo) (C := RX2) (T := TX2) (N := 9) hx hb hts hwX2_settle_RX2 hown hK hP 23 rfl rfl 4 (by decide) (hts _ mwX2_settle_6) (fun _ h9 => h9) rfl dX2_settle_52 ?_
      obtain ⟨u5, hu5, hres⟩ := mi_b hres
      refine call_L C0 (run_V C0 (rest := [.int x1, .ref (q 24)]) (kX1_nearestTo l dC dI q cI cJ cZ nr wd sg lw hg fr to sn pl kd tg sa sb bn mt pa ob tb fo rv ro tk ov sh tu rk cb rlo rhi rl rg tf kn tl th tv  x1 rlo u5 hu5 _) (cwV 2 hts gX2_settle_X1_nearestTo rfl rfl rfl (by decide +kernel) ⟨by decide, by decide⟩) hP hD (ci := 1) (q0 := 1) rfl rfl rfl hl.1 rfl (Nat.le_of_ble_eq_true rfl) dX2_settle_55) hD hS (fun H locs hP hD hS => ?_)
      obtain ⟨g_6, hres⟩ := mi_g hres
      refine va_last (D := (dC, dI)) (cl := vwCl) hx hb hK hP hD hS 24 1 rfl rfl g_6 dX2_settle_58 (fun H locs hP hD hS => ?_)
      have hP : va_P (dC, dI) vwCl (wC q cI cJ cZ nr wd sg lw hg fr to sn pl kd tg sa sb bn mt pa ob tb fo rv ro tk ov sh tu rk cb rlo rhi (vp_updL rl (Int32.toNatClampNeg x1) u5) rg tf kn tl th tv) H := hP
      have hD : va_D A (wC q cI cJ cZ nr wd sg lw hg fr to sn pl kd tg sa sb bn mt pa ob tb fo rv ro tk ov sh tu rk cb rlo rhi (vp_updL rl (Int32.toNatClampNeg x1) u5) rg tf kn tl th tv) := hD
      refine lv_aload_n hx hb dX2_settle_59 rfl (lv_at hl 0 rfl) ?_
      refine va_get (D := (dC, dI)) (ci := 2) (v := .ref (q 25)) (C := RX2) (T := TX2) (N := 9) hx hb hts hwX2_settle_RX2 hown hK hP 23 rfl rfl 1 (by decide) (hts _ mwX2_settle_4) (fun _ h9 => h9) rfl dX2_settle_60 ?_
      refine lv_iload_n hx hb dX2_settle_63 rfl (lv_at hl 1 rfl) ?_
      refine lv_aload_n hx hb dX2_settle_64 rfl (lv_at hl 0 rfl) ?_
      refine va_get (D := (dC, dI)) (ci := 2) (v := .ref (q 1)) (C := RX2) (T := TX2) (N := 9) hx hb hts hwX2_settle_RX2 hown hK hP 23 rfl rfl 6 (by decide) (hts _ mwX2_settle_0) (fun _ h9 => h9) rfl dX2_settle_65 ?_
      refine lv_iload_n hx hb dX2_settle_68 rfl (lv_at hl 1 rfl) ?_
      refine lv_aload_n hx hb dX2_settle_69 rfl (lv_at hl 0 rfl) ?_
      refine va_get (D := (dC, dI)) (ci := 2) (v := .long rhi) (C := RX2) (T := TX2) (N := 9) hx hb hts hwX2_settle_RX2 hown hK hP 23 rfl rfl 5 (by decide) (hts _ mwX2_settle_7) (fun _ h9 => h9) rfl dX2_settle_70 ?_
      obtain ⟨u7, hu7, hres⟩ := mi_b hres
      refine call_L C0 (run_V C0 (rest := [.int x1, .ref (q 25)]) (kX1_nearestTo l dC dI q cI cJ cZ nr wd sg lw hg fr to sn pl kd tg sa sb bn mt pa ob tb fo rv ro tk ov sh tu rk cb rlo rhi (vp_updL rl (Int32.toNatClampNeg x1) u5) rg tf kn tl th tv  x1 rhi u7 hu7 _) (cwV 2 hts gX2_settle_X1_nearestTo rfl rfl rfl (by decide +kernel) ⟨by decide, by decide⟩) hP hD (ci := 1) (q0 := 1) rfl rfl rfl hl.1 rfl (Nat.le_of_ble_eq_true rfl) dX2_settle_73) hD hS (fun H locs hP hD hS => ?_)
      refine va_last (D := (dC, dI)) (cl := vwCl) hx hb hK hP hD hS 25 1 rfl rfl g_6 dX2_settle_76 (fun H locs hP hD hS => ?_)
      have hP : va_P (dC, dI) vwCl (wC q cI cJ cZ nr wd sg lw hg fr to sn pl kd tg sa sb bn mt pa ob tb fo rv ro tk ov sh tu rk cb rlo rhi (vp_updL rl (Int32.toNatClampNeg x1) u5) (vp_updL rg (Int32.toNatClampNeg x1) u7) tf kn tl th tv) H := hP
      have hD : va_D A (wC q cI cJ cZ nr wd sg lw hg fr to sn pl kd tg sa sb bn mt pa ob tb fo rv ro tk ov sh tu rk cb rlo rhi (vp_updL rl (Int32.toNatClampNeg x1) u5) (vp_updL rg (Int32.toNatClampNeg x1) u7) tf kn tl th tv) := hD
      refine lv_goto (tgt := 110) hx hb dX2_settle_77 (by decide) ?_
      obtain rfl := Option.some.inj hres
      exact ret_V C0 hP hD hS dX2_settle_110
  · replace hres := mi_n c_2 hres
    refine lv_aload_n hx hb dX2_settle_8 rfl (lv_at hl 0 rfl) ?_
    refine va_get (D := (dC, dI)) (ci := 2) (v := .ref (q 24)) (C := RX2) (T := TX2) (N := 9) hx hb hts hwX2_settle_RX2 hown hK hP 23 rfl rfl 0 (by decide) (hts _ mwX2_settle_2) (fun _ h9 => h9) rfl dX2_settle_9 ?_
    refine lv_iload_n hx hb dX2_settle_12 rfl (lv_at hl 1 rfl) ?_
    refine lv_aload_n hx hb dX2_settle_13 rfl (lv_at hl 0 rfl) ?_
    refine va_get (D := (dC, dI)) (ci := 2) (v := .long rlo) (C := RX2) (T := TX2) (N := 9) hx hb hts hwX2_settle_RX2 hown hK hP 23 rfl rfl 4 (by decide) (hts _ mwX2_settle_6) (fun _ h9 => h9) rfl dX2_settle_14 ?_
    obtain ⟨g_8, hres⟩ := mi_g hres
    refine va_last (D := (dC, dI)) (cl := vwCl) hx hb hK hP hD hS 24 1 rfl rfl g_8 dX2_settle_17 (fun H locs hP hD hS => ?_)
    have hP : va_P (dC, dI) vwCl (wC q cI cJ cZ nr wd sg lw hg fr to sn pl kd tg sa sb bn mt pa ob tb fo rv ro tk ov sh tu rk cb rlo rhi (vp_updL rl (Int32.toNatClampNeg x1) rlo) rg tf kn tl th tv) H := hP
    have hD : va_D A (wC q cI cJ cZ nr wd sg lw hg fr to sn pl kd tg sa sb bn mt pa ob tb fo rv ro tk ov sh tu rk cb rlo rhi (vp_updL rl (Int32.toNatClampNeg x1) rlo) rg tf kn tl th tv) := hD
    refine lv_aload_n hx hb dX2_settle_18 rfl (lv_at hl 0 rfl) ?_
    refine va_get (D := (dC, dI)) (ci := 2) (v := .ref (q 25)) (C := RX2) (T := TX2) (N := 9) hx hb hts hwX2_settle_RX2 hown hK hP 23 rfl rfl 1 (by decide) (hts _ mwX2_settle_4) (fun _ h9 => h9) rfl dX2_settle_19 ?_
    refine lv_iload_n hx hb dX2_settle_22 rfl (lv_at hl 1 rfl) ?_
    refine lv_aload_n hx hb dX2_settle_23 rfl (lv_at hl 0 rfl) ?_
    refine va_get (D := (dC, dI)) (ci := 2) (v := .long rhi) (C := RX2) (T := TX2) (N := 9) hx hb hts hwX2_settle_RX2 hown hK hP 23 rfl rfl 5 (by decide) (hts _ mwX2_settle_7) (fun _ h9 => h9) rfl dX2_settle_24 ?_
    refine va_last (D := (dC, dI)) (cl := vwCl) hx hb hK hP hD hS 25 1 rfl rfl g_8 dX2_settle_27 (fun H locs hP hD hS => ?_)
    have hP : va_P (dC, dI) vwCl (wC q cI cJ cZ nr wd sg lw hg fr to sn pl kd tg sa sb bn mt pa ob tb fo rv ro tk ov sh tu rk cb rlo rhi (vp_updL rl (Int32.toNatClampNeg x1) rlo) (vp_updL rg (Int32.toNatClampNeg x1) rhi) tf kn tl th tv) H := hP
    have hD : va_D A (wC q cI cJ cZ nr wd sg lw hg fr to sn pl kd tg sa sb bn mt pa ob tb fo rv ro tk ov sh tu rk cb rlo rhi (vp_updL rl (Int32.toNatClampNeg x1) rlo) (vp_updL rg (Int32.toNatClampNeg x1) rhi) tf kn tl th tv) := hD
    refine lv_goto (tgt := 110) hx hb dX2_settle_28 (by decide) ?_
    obtain rfl := Option.some.inj hres
    exact ret_V C0 hP hD hS dX2_settle_110
/-! ### SumsOver$Steps.valueOfA(I[J)J -/
set_option maxRecDepth 20000 in
theorem hwX4_valueOfA_RX4 : ∀ w ∈ u_ws RX4 TX4 9, w ∈ wsX4_valueOfA := by decide +kernel
theorem mwX4_valueOfA_0 : (.fieldLink RX4 18 "SumsOver$Steps" "as" "[I" : Cond) ∈ wsX4_valueOfA := by decide +kernel
def rmX4_valueOfA : Room := { frames := 0, cells := 0, slots := 0, locals := 0 }
set_option maxHeartbeats 4000000 in
set_option maxRecDepth 100000 in
theorem kX4_valueOfA (l : Launch) (dC : Nat → ClassId) (dI : Nat → Nat → Nat) (q : Nat → Nat) (cI cJ cZ : ClassId) (nr : Int32) (wd : Nat → Int32) (sg : Nat → Int32) (lw : Nat → Int64) (hg : Nat → Int64) (fr : Nat → Int32) (to : Nat → Int32) (sn : Int32) (pl : Int32) (kd : Nat → Int32) (tg : Nat → Int32) (sa : Nat → Int32) (sb : Nat → Int32) (bn : Nat → Int32) (mt : Nat → Int32) (pa : Nat → Int32) (ob : Int32) (tb : Int32) (fo : Int32) (rv : Nat → Int64) (ro : Int32) (tk : Int32) (ov : Nat → Int32) (sh : Nat → Int32) (tu : Nat → Int32) (rk : Int32) (cb : Int32) (rlo : Int64) (rhi : Int64) (rl : Nat → Int64) (rg : Nat → Int64) (tf : Int32) (kn : Int32) (tl : Nat → Int64) (th : Nat → Int64) (tv : Nat → Int64) (ka av : Nat) (vf : Nat → Int64) (hav : (wC q cI cJ cZ nr wd sg lw hg fr to sn pl kd tg sa sb bn mt pa ob tb fo rv ro tk ov sh tu rk cb rlo rhi rl rg tf kn tl th tv)[ka]? = some (av, .inl (cJ, 6, .inr (.inl vf)))) (x1 : Int32) (RES : Int64) (hres : mX4_valueOfA sa vf x1 = some RES) : CtL l yX4_valueOfA wsX4_valueOfA rmX4_valueOfA (dC, dI) (ty3 cI cJ cZ) (wC q cI cJ cZ nr wd sg lw hg fr to sn pl kd tg sa sb bn mt pa ob tb fo rv ro tk ov sh tu rk cb rlo rhi rl rg tf kn tl th tv) [.ref (q 9), .int x1, .ref av] RES (wC q cI cJ cZ nr wd sg lw hg fr to sn pl kd tg sa sb bn mt pa ob tb fo rv ro tk ov sh tu rk cb rlo rhi rl rg tf kn tl th tv) := by
  intro sz
  refine ct_entry (cc := cX4_valueOfA) (maxL := 3) (ret := some .long) (own := RX4) (by decide) rfl rfl (Nat.le_of_ble_eq_true rfl) (ll := [(0, .ref (q 9)), (1, .int x1), (2, .ref av)]) rfl ?_
  intro p e s m args below meth c hsz C0 _ hP hD ls hl
  have C1 := C0
  obtain ⟨hx, hb, hr, hml, hown, hts, hlocks, hN, hK, hA⟩ := C1
  have hS : va_S (va_A (wC q cI cJ cZ nr wd sg lw hg fr to sn pl kd tg sa sb bn mt pa ob tb fo rv ro tk ov sh tu rk cb rlo rhi rl rg tf kn tl th tv) sz) s.heap s.heap [] := va_S.rf
  generalize va_A (wC q cI cJ cZ nr wd sg lw hg fr to sn pl kd tg sa sb bn mt pa ob tb fo rv ro tk ov sh tu rk cb rlo rhi rl rg tf kn tl th tv) sz = A at C0 hD hA hS ⊢
  show W p l e rmX4_valueOfA s m args below meth c s.heap [] 0 0 (QL below args s A (dC, dI) (ty3 cI cJ cZ) RES (wC q cI cJ cZ nr wd sg lw hg fr to sn pl kd tg sa sb bn mt pa ob tb fo rv ro tk ov sh tu rk cb rlo rhi rl rg tf kn tl th tv)) (F0 m 0 ls [])
  unfold mX4_valueOfA at hres
  refine lv_aload_n hx hb dX4_valueOfA_0 rfl (lv_at hl 2 rfl) ?_
  refine lv_aload_n hx hb dX4_valueOfA_1 rfl (lv_at hl 0 rfl) ?_
  refine va_get (D := (dC, dI)) (ci := 4) (v := .ref (q 12)) (C := RX4) (T := TX4) (N := 9) hx hb hts hwX4_valueOfA_RX4 hown hK hP 9 rfl rfl 2 (by decide) (hts _ mwX4_valueOfA_0) (fun _ h9 => h9) rfl dX4_valueOfA_2 ?_
  refine lv_iload_n hx hb dX4_valueOfA_5 rfl (lv_at hl 1 rfl) ?_
  obtain ⟨g_1, hres⟩ := mi_g hres
  refine va_iald (D := (dC, dI)) (cl := vwCl) hx hb hK hP 12 0 rfl rfl g_1 dX4_valueOfA_6 ?_
  obtain ⟨g_2, hres⟩ := mi_g hres
  refine va_lald (D := (dC, dI)) (cl := vwCl) hx hb hK hP ka 1 hav rfl g_2 dX4_valueOfA_7 ?_
  obtain rfl := Option.some.inj hres
  exact ret_L (r := (vf (Int32.toNatClampNeg (sa (Int32.toNatClampNeg x1))))) C0 hP hD hS dX4_valueOfA_8
/-! ### SumsOver$Steps.valueOfB(I[J)J -/
set_option maxRecDepth 20000 in
theorem hwX4_valueOfB_RX4 : ∀ w ∈ u_ws RX4 TX4 9, w ∈ wsX4_valueOfB := by decide +kernel
theorem mwX4_valueOfB_0 : (.fieldLink RX4 24 "SumsOver$Steps" "bIsName" "[Z" : Cond) ∈ wsX4_valueOfB := by decide +kernel
theorem mwX4_valueOfB_1 : (.fieldLink RX4 21 "SumsOver$Steps" "bs" "[I" : Cond) ∈ wsX4_valueOfB := by decide +kernel
def rmX4_valueOfB : Room := { frames := 0, cells := 0, slots := 0, locals := 0 }
set_option maxHeartbeats 4000000 in
set_option maxRecDepth 100000 in
theorem kX4_valueOfB (l : Launch) (dC : Nat → ClassId) (dI : Nat → Nat → Nat) (q : Nat → Nat) (cI cJ cZ : ClassId) (nr : Int32) (wd : Nat → Int32) (sg : Nat → Int32) (lw : Nat → Int64) (hg : Nat → Int64) (fr : Nat → Int32) (to : Nat → Int32) (sn : Int32) (pl : Int32) (kd : Nat → Int32) (tg : Nat → Int32) (sa : Nat → Int32) (sb : Nat → Int32) (bn : Nat → Int32) (mt : Nat → Int32) (pa : Nat → Int32) (ob : Int32) (tb : Int32) (fo : Int32) (rv : Nat → Int64) (ro : Int32) (tk : Int32) (ov : Nat → Int32) (sh : Nat → Int32) (tu : Nat → Int32) (rk : Int32) (cb : Int32) (rlo : Int64) (rhi : Int64) (rl : Nat → Int64) (rg : Nat → Int64) (tf : Int32) (kn : Int32) (tl : Nat → Int64) (th : Nat → Int64) (tv : Nat → Int64) (ka av : Nat) (vf : Nat → Int64) (hav : (wC q cI cJ cZ nr wd sg lw hg fr to sn pl kd tg sa sb bn mt pa ob tb fo rv ro tk ov sh tu rk cb rlo rhi rl rg tf kn tl th tv)[ka]? = some (av, .inl (cJ, 6, .inr (.inl vf)))) (x1 : Int32) (RES : Int64) (hres : mX4_valueOfB sb bn vf x1 = some RES) : CtL l yX4_valueOfB wsX4_valueOfB rmX4_valueOfB (dC, dI) (ty3 cI cJ cZ) (wC q cI cJ cZ nr wd sg lw hg fr to sn pl kd tg sa sb bn mt pa ob tb fo rv ro tk ov sh tu rk cb rlo rhi rl rg tf kn tl th tv) [.ref (q 9), .int x1, .ref av] RES (wC q cI cJ cZ nr wd sg lw hg fr to sn pl kd tg sa sb bn mt pa ob tb fo rv ro tk ov sh tu rk cb rlo rhi rl rg tf kn tl th tv) := by
  intro sz
  refine ct_entry (cc := cX4_valueOfB) (maxL := 3) (ret := some .long) (own := RX4) (by decide) rfl rfl (Nat.le_of_ble_eq_true rfl) (ll := [(0, .ref (q 9)), (1, .int x1), (2, .ref av)]) rfl ?_
  intro p e s m args below meth c hsz C0 _ hP hD ls hl
  have C1 := C0
  obtain ⟨hx, hb, hr, hml, hown, hts, hlocks, hN, hK, hA⟩ := C1
  have hS : va_S (va_A (wC q cI cJ cZ nr wd sg lw hg fr to sn pl kd tg sa sb bn mt pa ob tb fo rv ro tk ov sh tu rk cb rlo rhi rl rg tf kn tl th tv) sz) s.heap s.heap [] := va_S.rf
  generalize va_A (wC q cI cJ cZ nr wd sg lw hg fr to sn pl kd tg sa sb bn mt pa ob tb fo rv ro tk ov sh tu rk cb rlo rhi rl rg tf kn tl th tv) sz = A at C0 hD hA hS ⊢
  show W p l e rmX4_valueOfB s m args below meth c s.heap [] 0 0 (QL below args s A (dC, dI) (ty3 cI cJ cZ) RES (wC q cI cJ cZ nr wd sg lw hg fr to sn pl kd tg sa sb bn mt pa ob tb fo rv ro tk ov sh tu rk cb rlo rhi rl rg tf kn tl th tv)) (F0 m 0 ls [])
  unfold mX4_valueOfB at hres
  refine lv_aload_n hx hb dX4_valueOfB_0 rfl (lv_at hl 0 rfl) ?_
  refine va_get (D := (dC, dI)) (ci := 4) (v := .ref (q 14)) (C := RX4) (T := TX4) (N := 9) hx hb hts hwX4_valueOfB_RX4 hown hK hP 9 rfl rfl 4 (by decide) (hts _ mwX4_valueOfB_0) (fun _ h9 => h9) rfl dX4_valueOfB_1 ?_
  refine lv_iload_n hx hb dX4_valueOfB_4 rfl (lv_at hl 1 rfl) ?_
  obtain ⟨g_1, hres⟩ := mi_g hres
  refine va_zald (D := (dC, dI)) (cl := vwCl) hx hb hK hP 14 2 rfl rfl g_1 dX4_valueOfB_5 ?_
  refine lv_if_eq (tgt := 20) hx hb dX4_valueOfB_6 (by decide) (fun c_2 => ?_) (fun c_2 => ?_)
  · replace hres := mi_p c_2 hres
    refine lv_aload_n hx hb dX4_valueOfB_20 rfl (lv_at hl 0 rfl) ?_
    refine va_get (D := (dC, dI)) (ci := 4) (v := .ref (q 13)) (C := RX4) (T := TX4) (N := 9) hx hb hts hwX4_valueOfB_RX4 hown hK hP 9 rfl rfl 3 (by decide) (hts _ mwX4_valueOfB_1) (fun _ h9 => h9) rfl dX4_valueOfB_21 ?_
    refine lv_iload_n hx hb dX4_valueOfB_24 rfl (lv_at hl 1 rfl) ?_
    refine va_iald (D := (dC, dI)) (cl := vwCl) hx hb hK hP 13 0 rfl rfl g_1 dX4_valueOfB_25 ?_
    refine lv_i2l (v := ((sb (Int32.toNatClampNeg x1))).toInt64) hx hb dX4_valueOfB_26 rfl ?_
    obtain rfl := Option.some.inj hres
    exact ret_L (r := (((sb (Int32.toNatClampNeg x1))).toInt64)) C0 hP hD hS dX4_valueOfB_27
  · replace hres := mi_n c_2 hres
    refine lv_aload_n hx hb dX4_valueOfB_9 rfl (lv_at hl 2 rfl) ?_
    refine lv_aload_n hx hb dX4_valueOfB_10 rfl (lv_at hl 0 rfl) ?_
    refine va_get (D := (dC, dI)) (ci := 4) (v := .ref (q 13)) (C := RX4) (T := TX4) (N := 9) hx hb hts hwX4_valueOfB_RX4 hown hK hP 9 rfl rfl 3 (by decide) (hts _ mwX4_valueOfB_1) (fun _ h9 => h9) rfl dX4_valueOfB_11 ?_
    refine lv_iload_n hx hb dX4_valueOfB_14 rfl (lv_at hl 1 rfl) ?_
    refine va_iald (D := (dC, dI)) (cl := vwCl) hx hb hK hP 13 0 rfl rfl g_1 dX4_valueOfB_15 ?_
    obtain ⟨g_3, hres⟩ := mi_g hres
    refine va_lald (D := (dC, dI)) (cl := vwCl) hx hb hK hP ka 1 hav rfl g_3 dX4_valueOfB_16 ?_
    refine lv_goto (tgt := 27) hx hb dX4_valueOfB_17 (by decide) ?_
    obtain rfl := Option.some.inj hres
    exact ret_L (r := (vf (Int32.toNatClampNeg (sb (Int32.toNatClampNeg x1))))) C0 hP hD hS dX4_valueOfB_27
/-! ### SumsOver$Reach.reckon(I)V -/
set_option maxRecDepth 20000 in
theorem hwX2_reckon_RX2 : ∀ w ∈ u_ws RX2 TX2 9, w ∈ wsX2_reckon := by decide +kernel
theorem mwX2_reckon_0 : (.fieldLink RX2 22 "SumsOver$Reach" "steps" "LSumsOver$Steps;" : Cond) ∈ wsX2_reckon := by decide +kernel
theorem mwX2_reckon_1 : (.fieldLink RX2 9 "SumsOver$Reach" "least" "[J" : Cond) ∈ wsX2_reckon := by decide +kernel
theorem mwX2_reckon_2 : (.fieldLink RX2 15 "SumsOver$Reach" "greatest" "[J" : Cond) ∈ wsX2_reckon := by decide +kernel
set_option maxRecDepth 20000 in
theorem hwX2_reckon_RX4 : ∀ w ∈ u_ws RX4 TX4 9, w ∈ wsX2_reckon := by decide +kernel
theorem mwX2_reckon_3 : (.fieldLink RX2 107 "SumsOver$Steps" "kinds" "[I" : Cond) ∈ wsX2_reckon := by decide +kernel
theorem mwX2_reckon_4 : (.fieldLink RX2 50 "SumsOver$Reach" "low" "J" : Cond) ∈ wsX2_reckon := by decide +kernel
theorem mwX2_reckon_5 : (.fieldLink RX2 57 "SumsOver$Reach" "high" "J" : Cond) ∈ wsX2_reckon := by decide +kernel
theorem mwX2_reckon_6 : (.methodLink RX2 110 Lib.MathLoose.min_long.x : Cond) ∈ wsX2_reckon := by decide +kernel
theorem mwX2_reckon_7 : (.static Lib.MathLoose.min_long.x : Cond) ∈ wsX2_reckon := by decide +kernel
theorem mwX2_reckon_8 : (.initialized "java/lang/Math" : Cond) ∈ wsX2_reckon := by decide +kernel
theorem mwX2_reckon_9 : (.code Lib.MathLoose.min_long.x Lib.MathLoose.min_long.code 4 (some .long) : Cond) ∈ wsX2_reckon := by decide +kernel
theorem mwX2_reckon_10 : (.methodLink RX2 116 Lib.MathLoose.max_long.x : Cond) ∈ wsX2_reckon := by decide +kernel
theorem mwX2_reckon_11 : (.static Lib.MathLoose.max_long.x : Cond) ∈ wsX2_reckon := by decide +kernel
theorem mwX2_reckon_12 : (.code Lib.MathLoose.max_long.x Lib.MathLoose.max_long.code 4 (some .long) : Cond) ∈ wsX2_reckon := by decide +kernel
theorem mwX2_reckon_13 : (.fieldLink RX2 18 "SumsOver$Reach" "names" "LSumsOver$Names;" : Cond) ∈ wsX2_reckon := by decide +kernel
theorem mwX2_reckon_14 : (.fieldLink RX2 119 "SumsOver$Steps" "as" "[I" : Cond) ∈ wsX2_reckon := by decide +kernel
theorem mwX2_reckon_15 : (.fieldLink RX2 122 "SumsOver$Steps" "bs" "[I" : Cond) ∈ wsX2_reckon := by decide +kernel
theorem mwX2_reckon_16 : (.initialized RX7 : Cond) ∈ wsX2_reckon := by decide +kernel
theorem mwX2_reckon_17 : (.static yX7_made : Cond) ∈ wsX2_reckon := by decide +kernel
def rmX2_reckon : Room := { frames := 2, cells := 0, slots := 0, locals := 47 }
set_option maxHeartbeats 4000000 in
set_option maxRecDepth 100000 in
theorem kX2_reckon (l : Launch) (dC : Nat → ClassId) (dI : Nat → Nat → Nat) (q : Nat → Nat) (cI cJ cZ : ClassId) (nr : Int32) (wd : Nat → Int32) (sg : Nat → Int32) (lw : Nat → Int64) (hg : Nat → Int64) (fr : Nat → Int32) (to : Nat → Int32) (sn : Int32) (pl : Int32) (kd : Nat → Int32) (tg : Nat → Int32) (sa : Nat → Int32) (sb : Nat → Int32) (bn : Nat → Int32) (mt : Nat → Int32) (pa : Nat → Int32) (ob : Int32) (tb : Int32) (fo : Int32) (rv : Nat → Int64) (ro : Int32) (tk : Int32) (ov : Nat → Int32) (sh : Nat → Int32) (tu : Nat → Int32) (rk : Int32) (cb : Int32) (rlo : Int64) (rhi : Int64) (rl : Nat → Int64) (rg : Nat → Int64) (tf : Int32) (kn : Int32) (tl : Nat → Int64) (th : Nat → Int64) (tv : Nat → Int64) (x1 : Int32) (RES : (Int64) × (Int64)) (hres : mX2_reckon sg kd sa sb bn rlo rhi rl rg x1 = some RES) : CtV l yX2_reckon wsX2_reckon rmX2_reckon (dC, dI) (ty3 cI cJ cZ) (wC q cI cJ cZ nr wd sg lw hg fr to sn pl kd tg sa sb bn mt pa ob tb fo rv ro tk ov sh tu rk cb rlo rhi rl rg tf kn tl th tv) [.ref (q 23), .int x1] (wC q cI cJ cZ nr wd sg lw hg fr to sn pl kd tg sa sb bn mt pa ob tb fo rv ro tk ov sh tu rk cb RES.1 RES.2 rl rg tf kn tl th tv) := by
  intro sz
  refine ct_entry (cc := cX2_reckon) (maxL := 12) (ret := none) (own := RX2) (by decide) rfl rfl (Nat.le_of_ble_eq_true rfl) (ll := [(0, .ref (q 23)), (1, .int x1)]) rfl ?_
  intro p e s m args below meth c hsz C0 _ hP hD ls hl
  have C1 := C0
  obtain ⟨hx, hb, hr, hml, hown, hts, hlocks, hN, hK, hA⟩ := C1
  have hS : va_S (va_A (wC q cI cJ cZ nr wd sg lw hg fr to sn pl kd tg sa sb bn mt pa ob tb fo rv ro tk ov sh tu rk cb rlo rhi rl rg tf kn tl th tv) sz) s.heap s.heap [] := va_S.rf
  generalize va_A (wC q cI cJ cZ nr wd sg lw hg fr to sn pl kd tg sa sb bn mt pa ob tb fo rv ro tk ov sh tu rk cb rlo rhi rl rg tf kn tl th tv) sz = A at C0 hD hA hS ⊢
  show W p l e rmX2_reckon s m args below meth c s.heap [] 0 0 (QV below args s A (dC, dI) (ty3 cI cJ cZ) (wC q cI cJ cZ nr wd sg lw hg fr to sn pl kd tg sa sb bn mt pa ob tb fo rv ro tk ov sh tu rk cb RES.1 RES.2 rl rg tf kn tl th tv)) (F0 m 0 ls [])
  unfold mX2_reckon at hres
  refine lv_aload_n hx hb dX2_reckon_0 rfl (lv_at hl 0 rfl) ?_
  refine va_get (D := (dC, dI)) (ci := 2) (v := .ref (q 9)) (C := RX2) (T := TX2) (N := 9) hx hb hts hwX2_reckon_RX2 hown hK hP 23 rfl rfl 7 (by decide) (hts _ mwX2_reckon_0) (fun _ h9 => h9) rfl dX2_reckon_1 ?_
  refine lv_iload_n hx hb dX2_reckon_4 rfl (lv_at hl 1 rfl) ?_
  refine lv_aload_n hx hb dX2_reckon_5 rfl (lv_at hl 0 rfl) ?_
  refine va_get (D := (dC, dI)) (ci := 2) (v := .ref (q 24)) (C := RX2) (T := TX2) (N := 9) hx hb hts hwX2_reckon_RX2 hown hK hP 23 rfl rfl 0 (by decide) (hts _ mwX2_reckon_1) (fun _ h9 => h9) rfl dX2_reckon_6 ?_
  obtain ⟨u1, hu1, hres⟩ := mi_b hres
  refine call_L C0 (run_V C0 (rest := []) (kX4_valueOfA l dC dI q cI cJ cZ nr wd sg lw hg fr to sn pl kd tg sa sb bn mt pa ob tb fo rv ro tk ov sh tu rk cb rlo rhi rl rg tf kn tl th tv 24 (q 24) rl rfl x1 u1 hu1 _) (cwV 2 hts gX2_reckon_X4_valueOfA rfl rfl rfl (by decide +kernel) ⟨by decide, by decide⟩) hP hD (ci := 4) (q0 := 9) rfl rfl rfl hl.1 rfl (Nat.le_of_ble_eq_true rfl) dX2_reckon_9) hD hS (fun H locs hP hD hS => ?_)
  refine lv_lstore_n (lv' := [(2, .long u1), (0, .ref (q 23)), (1, .int x1)]) hx hb dX2_reckon_12 rfl hl (by decide) rfl (fun ls hl => ?_)
  refine lv_aload_n hx hb dX2_reckon_13 rfl (lv_at hl 1 rfl) ?_
  refine va_get (D := (dC, dI)) (ci := 2) (v := .ref (q 9)) (C := RX2) (T := TX2) (N := 9) hx hb hts hwX2_reckon_RX2 hown hK hP 23 rfl rfl 7 (by decide) (hts _ mwX2_reckon_0) (fun _ h9 => h9) rfl dX2_reckon_14 ?_
  refine lv_iload_n hx hb dX2_reckon_17 rfl (lv_at hl 2 rfl) ?_
  refine lv_aload_n hx hb dX2_reckon_18 rfl (lv_at hl 1 rfl) ?_
  refine va_get (D := (dC, dI)) (ci := 2) (v := .ref (q 24)) (C := RX2) (T := TX2) (N := 9) hx hb hts hwX2_reckon_RX2 hown hK hP 23 rfl rfl 0 (by decide) (hts _ mwX2_reckon_1) (fun _ h9 => h9) rfl dX2_reckon_19 ?_
  obtain ⟨u2, hu2, hres⟩ := mi_b hres
  refine call_L C0 (run_V C0 (rest := []) (kX4_valueOfB l dC dI q cI cJ cZ nr wd sg lw hg fr to sn pl kd tg sa sb bn mt pa ob tb fo rv ro tk ov sh tu rk cb rlo rhi rl rg tf kn tl th tv 24 (q 24) rl rfl x1 u2 hu2 _) (cwV 2 hts gX2_reckon_X4_valueOfB rfl rfl rfl (by decide +kernel) ⟨by decide, by decide⟩) hP hD (ci := 4) (q0 := 9) rfl rfl rfl hl.1 rfl (Nat.le_of_ble_eq_true rfl) dX2_reckon_22) hD hS (fun H locs hP hD hS => ?_)
  refine lv_lstore (lv' := [(4, .long u2), (2, .long u1), (0, .ref (q 23)), (1, .int x1)]) hx hb dX2_reckon_25 hl (by decide) rfl (fun ls hl => ?_)
  refine lv_aload_n hx hb dX2_reckon_27 rfl (lv_at hl 2 rfl) ?_
  refine va_get (D := (dC, dI)) (ci := 2) (v := .ref (q 9)) (C := RX2) (T := TX2) (N := 9) hx hb hts hwX2_reckon_RX2 hown hK hP 23 rfl rfl 7 (by decide) (hts _ mwX2_reckon_0) (fun _ h9 => h9) rfl dX2_reckon_28 ?_
  refine lv_iload_n hx hb dX2_reckon_31 rfl (lv_at hl 3 rfl) ?_
  refine lv_aload_n hx hb dX2_reckon_32 rfl (lv_at hl 2 rfl) ?_
  refine va_get (D := (dC, dI)) (ci := 2) (v := .ref (q 25)) (C := RX2) (T := TX2) (N := 9) hx hb hts hwX2_reckon_RX2 hown hK hP 23 rfl rfl 1 (by decide) (hts _ mwX2_reckon_2) (fun _ h9 => h9) rfl dX2_reckon_33 ?_
  obtain ⟨u3, hu3, hres⟩ := mi_b hres
  refine call_L C0 (run_V C0 (rest := []) (kX4_valueOfA l dC dI q cI cJ cZ nr wd sg lw hg fr to sn pl kd tg sa sb bn mt pa ob tb fo rv ro tk ov sh tu rk cb rlo rhi rl rg tf kn tl th tv 25 (q 25) rg rfl x1 u3 hu3 _) (cwV 2 hts gX2_reckon_X4_valueOfA rfl rfl rfl (by decide +kernel) ⟨by decide, by decide⟩) hP hD (ci := 4) (q0 := 9) rfl rfl rfl hl.1 rfl (Nat.le_of_ble_eq_true rfl) dX2_reckon_36) hD hS (fun H locs hP hD hS => ?_)
  refine lv_lstore (lv' := [(6, .long u3), (4, .long u2), (2, .long u1), (0, .ref (q 23)), (1, .int x1)]) hx hb dX2_reckon_39 hl (by decide) rfl (fun ls hl => ?_)
  refine lv_aload_n hx hb dX2_reckon_41 rfl (lv_at hl 3 rfl) ?_
  refine va_get (D := (dC, dI)) (ci := 2) (v := .ref (q 9)) (C := RX2) (T := TX2) (N := 9) hx hb hts hwX2_reckon_RX2 hown hK hP 23 rfl rfl 7 (by decide) (hts _ mwX2_reckon_0) (fun _ h9 => h9) rfl dX2_reckon_42 ?_
  refine lv_iload_n hx hb dX2_reckon_45 rfl (lv_at hl 4 rfl) ?_
  refine lv_aload_n hx hb dX2_reckon_46 rfl (lv_at hl 3 rfl) ?_
  refine va_get (D := (dC, dI)) (ci := 2) (v := .ref (q 25)) (C := RX2) (T := TX2) (N := 9) hx hb hts hwX2_reckon_RX2 hown hK hP 23 rfl rfl 1 (by decide) (hts _ mwX2_reckon_2) (fun _ h9 => h9) rfl dX2_reckon_47 ?_
  obtain ⟨u4, hu4, hres⟩ := mi_b hres
  refine call_L C0 (run_V C0 (rest := []) (kX4_valueOfB l dC dI q cI cJ cZ nr wd sg lw hg fr to sn pl kd tg sa sb bn mt pa ob tb fo rv ro tk ov sh tu rk cb rlo rhi rl rg tf kn tl th tv 25 (q 25) rg rfl x1 u4 hu4 _) (cwV 2 hts gX2_reckon_X4_valueOfB rfl rfl rfl (by decide +kernel) ⟨by decide, by decide⟩) hP hD (ci := 4) (q0 := 9) rfl rfl rfl hl.1 rfl (Nat.le_of_ble_eq_true rfl) dX2_reckon_50) hD hS (fun H locs hP hD hS => ?_)
  refine lv_lstore (lv' := [(8, .long u4), (6, .long u3), (4, .long u2), (2, .long u1), (0, .ref (q 23)), (1, .int x1)]) hx hb dX2_reckon_53 hl (by decide) rfl (fun ls hl => ?_)
  refine lv_aload_n hx hb dX2_reckon_55 rfl (lv_at hl 4 rfl) ?_
  refine va_get (D := (dC, dI)) (ci := 2) (v := .ref (q 9)) (C := RX2) (T := TX2) (N := 9) hx hb hts hwX2_reckon_RX2 hown hK hP 23 rfl rfl 7 (by decide) (hts _ mwX2_reckon_0) (fun _ h9 => h9) rfl dX2_reckon_56 ?_
  refine va_get (D := (dC, dI)) (ci := 4) (v := .ref (q 10)) (C := RX4) (T := TX4) (N := 9) hx hb hts hwX2_reckon_RX4 hown hK hP 9 rfl rfl 0 (by decide) (hts _ mwX2_reckon_3) (fun _ h9 => h9) rfl dX2_reckon_59 ?_
  refine lv_iload_n hx hb dX2_reckon_62 rfl (lv_at hl 5 rfl) ?_
  obtain ⟨g_5, hres⟩ := mi_g hres
  refine va_iald (D := (dC, dI)) (cl := vwCl) hx hb hK hP 10 0 rfl rfl g_5 dX2_reckon_63 ?_
  refine lv_istore (lv' := [(10, .int (kd (Int32.toNatClampNeg x1))), (8, .long u4), (6, .long u3), (4, .long u2), (2, .long u1), (0, .ref (q 23)), (1, .int x1)]) hx hb dX2_reckon_64 hl (by decide) rfl (fun ls hl => ?_)
  refine lv_iload hx hb dX2_reckon_66 (lv_at hl 0 rfl) ?_
  by_cases c_6 : (kd (Int32.toNatClampNeg x1)) = (3 : Int32)
  · replace hres := mi_p c_6 hres
    refine sw_tab (tgt := 104) hx hb dX2_reckon_68 (by decide) (by have h9 := c_6 <;> (rw [h9]; decide)) ?_
    refine lv_aload_n hx hb dX2_reckon_104 rfl (lv_at hl 5 rfl) ?_
    refine lv_lload_n hx hb dX2_reckon_105 rfl (lv_at hl 4 rfl) ?_
    refine lv_lload hx hb dX2_reckon_106 (lv_at hl 1 rfl) ?_
    refine lv_lsub hx hb dX2_reckon_108 ?_
    refine va_put (D := (dC, dI)) (ci := 2) (v := .long (u1 - u4)) (ty := .long) (C := RX2) (T := TX2) (N := 9) hx hb hts hwX2_reckon_RX2 tyX2 tyX2_ok nmX2 hown hK hP hD hS 23 rfl rfl 4 (by decide) (hts _ mwX2_reckon_4) (fun _ h9 => h9) rfl (by decide +kernel) rfl rfl (Nat.le_of_ble_eq_true rfl) dX2_reckon_109 (fun H locs hP hD hS => ?_)
    have hP : va_P (dC, dI) vwCl (wC q cI cJ cZ nr wd sg lw hg fr to sn pl kd tg sa sb bn mt pa ob tb fo rv ro tk ov sh tu rk cb (u1 - u4) rhi rl rg tf kn tl th tv) H := hP
    have hD : va_D A (wC q cI cJ cZ nr wd sg lw hg fr to sn pl kd tg sa sb bn mt pa ob tb fo rv ro tk ov sh tu rk cb (u1 - u4) rhi rl rg tf kn tl th tv) := hD
    refine lv_aload_n hx hb dX2_reckon_112 rfl (lv_at hl 5 rfl) ?_
    refine lv_lload hx hb dX2_reckon_113 (lv_at hl 2 rfl) ?_
    refine lv_lload hx hb dX2_reckon_115 (lv_at hl 3 rfl) ?_
    refine lv_lsub hx hb dX2_reckon_117 ?_
    refine va_put (D := (dC, dI)) (ci := 2) (v := .long (u3 - u2)) (ty := .long) (C := RX2) (T := TX2) (N := 9) hx hb hts hwX2_reckon_RX2 tyX2 tyX2_ok nmX2 hown hK hP hD hS 23 rfl rfl 5 (by decide) (hts _ mwX2_reckon_5) (fun _ h9 => h9) rfl (by decide +kernel) rfl rfl (Nat.le_of_ble_eq_true rfl) dX2_reckon_118 (fun H locs hP hD hS => ?_)
    have hP : va_P (dC, dI) vwCl (wC q cI cJ cZ nr wd sg lw hg fr to sn pl kd tg sa sb bn mt pa ob tb fo rv ro tk ov sh tu rk cb (u1 - u4) (u3 - u2) rl rg tf kn tl th tv) H := hP
    have hD : va_D A (wC q cI cJ cZ nr wd sg lw hg fr to sn pl kd tg sa sb bn mt pa ob tb fo rv ro tk ov sh tu rk cb (u1 - u4) (u3 - u2) rl rg tf kn tl th tv) := hD
    refine lv_goto (tgt := 287) hx hb dX2_reckon_121 (by decide) ?_
    obtain rfl := Option.some.inj hres
    exact ret_V C0 hP hD hS dX2_reckon_287
  · replace hres := mi_n c_6 hres
    by_cases c_7 : (kd (Int32.toNatClampNeg x1)) = (4 : Int32)
    · replace hres := mi_p c_7 hres
      refine sw_tab (tgt := 124) hx hb dX2_reckon_68 (by decide) (by have h9 := c_7 <;> (rw [h9]; decide)) ?_
      refine lv_aload_n hx hb dX2_reckon_124 rfl (lv_at hl 5 rfl) ?_
      refine lv_lload_n hx hb dX2_reckon_125 rfl (lv_at hl 4 rfl) ?_
      refine lv_lload hx hb dX2_reckon_126 (lv_at hl 3 rfl) ?_
      refine lv_lmul hx hb dX2_reckon_128 ?_
      refine lv_lload_n hx hb dX2_reckon_129 rfl (lv_at hl 4 rfl) ?_
      refine lv_lload hx hb dX2_reckon_130 (lv_at hl 1 rfl) ?_
      refine lv_lmul hx hb dX2_reckon_132 ?_
      refine va_mmin_long hx hb (hml.trans hl.1.symm) hown (hts _ mwX2_reckon_6) (hts _ mwX2_reckon_7) (hts _ mwX2_reckon_8) (hts _ mwX2_reckon_9) (Nat.le_of_ble_eq_true rfl) (Nat.le_of_ble_eq_true rfl) (Nat.zero_le _) (Nat.zero_le _) dX2_reckon_133 ?_
      refine lv_lload hx hb dX2_reckon_136 (lv_at hl 2 rfl) ?_
      refine lv_lload hx hb dX2_reckon_138 (lv_at hl 3 rfl) ?_
      refine lv_lmul hx hb dX2_reckon_140 ?_
      refine lv_lload hx hb dX2_reckon_141 (lv_at hl 2 rfl) ?_
      refine lv_lload hx hb dX2_reckon_143 (lv_at hl 1 rfl) ?_
      refine lv_lmul hx hb dX2_reckon_145 ?_
      refine va_mmin_long hx hb (hml.trans hl.1.symm) hown (hts _ mwX2_reckon_6) (hts _ mwX2_reckon_7) (hts _ mwX2_reckon_8) (hts _ mwX2_reckon_9) (Nat.le_of_ble_eq_true rfl) (Nat.le_of_ble_eq_true rfl) (Nat.zero_le _) (Nat.zero_le _) dX2_reckon_146 ?_
      refine va_mmin_long hx hb (hml.trans hl.1.symm) hown (hts _ mwX2_reckon_6) (hts _ mwX2_reckon_7) (hts _ mwX2_reckon_8) (hts _ mwX2_reckon_9) (Nat.le_of_ble_eq_true rfl) (Nat.le_of_ble_eq_true rfl) (Nat.zero_le _) (Nat.zero_le _) dX2_reckon_149 ?_
      refine va_put (D := (dC, dI)) (ci := 2) (v := .long (if (if (u3 * u4) < (u3 * u2) then (u3 * u4) else (u3 * u2)) < (if (u1 * u4) < (u1 * u2) then (u1 * u4) else (u1 * u2)) then (if (u3 * u4) < (u3 * u2) then (u3 * u4) else (u3 * u2)) else (if (u1 * u4) < (u1 * u2) then (u1 * u4) else (u1 * u2)))) (ty := .long) (C := RX2) (T := TX2) (N := 9) hx hb hts hwX2_reckon_RX2 tyX2 tyX2_ok nmX2 hown hK hP hD hS 23 rfl rfl 4 (by decide) (hts _ mwX2_reckon_4) (fun _ h9 => h9) rfl (by decide +kernel) rfl rfl (Nat.le_of_ble_eq_true rfl) dX2_reckon_152 (fun H locs hP hD hS => ?_)
      have hP : va_P (dC, dI) vwCl (wC q cI cJ cZ nr wd sg lw hg fr to sn pl kd tg sa sb bn mt pa ob tb fo rv ro tk ov sh tu rk cb (if (if (u3 * u4) < (u3 * u2) then (u3 * u4) else (u3 * u2)) < (if (u1 * u4) < (u1 * u2) then (u1 * u4) else (u1 * u2)) then (if (u3 * u4) < (u3 * u2) then (u3 * u4) else (u3 * u2)) else (if (u1 * u4) < (u1 * u2) then (u1 * u4) else (u1 * u2))) rhi rl rg tf kn tl th tv) H := hP
      have hD : va_D A (wC q cI cJ cZ nr wd sg lw hg fr to sn pl kd tg sa sb bn mt pa ob tb fo rv ro tk ov sh tu rk cb (if (if (u3 * u4) < (u3 * u2) then (u3 * u4) else (u3 * u2)) < (if (u1 * u4) < (u1 * u2) then (u1 * u4) else (u1 * u2)) then (if (u3 * u4) < (u3 * u2) then (u3 * u4) else (u3 * u2)) else (if (u1 * u4) < (u1 * u2) then (u1 * u4) else (u1 * u2))) rhi rl rg tf kn tl th tv) := hD
      refine lv_aload_n hx hb dX2_reckon_155 rfl (lv_at hl 5 rfl) ?_
      refine lv_lload_n hx hb dX2_reckon_156 rfl (lv_at hl 4 rfl) ?_
      refine lv_lload hx hb dX2_reckon_157 (lv_at hl 3 rfl) ?_
      refine lv_lmul hx hb dX2_reckon_159 ?_
      refine lv_lload_n hx hb dX2_reckon_160 rfl (lv_at hl 4 rfl) ?_
      refine lv_lload hx hb dX2_reckon_161 (lv_at hl 1 rfl) ?_
      refine lv_lmul hx hb dX2_reckon_163 ?_
      refine va_mmax_long hx hb (hml.trans hl.1.symm) hown (hts _ mwX2_reckon_10) (hts _ mwX2_reckon_11) (hts _ mwX2_reckon_8) (hts _ mwX2_reckon_12) (Nat.le_of_ble_eq_true rfl) (Nat.le_of_ble_eq_true rfl) (Nat.zero_le _) (Nat.zero_le _) dX2_reckon_164 ?_
      refine lv_lload hx hb dX2_reckon_167 (lv_at hl 2 rfl) ?_
      refine lv_lload hx hb dX2_reckon_169 (lv_at hl 3 rfl) ?_
      refine lv_lmul hx hb dX2_reckon_171 ?_
      refine lv_lload hx hb dX2_reckon_172 (lv_at hl 2 rfl) ?_
      refine lv_lload hx hb dX2_reckon_174 (lv_at hl 1 rfl) ?_
      refine lv_lmul hx hb dX2_reckon_176 ?_
      refine va_mmax_long hx hb (hml.trans hl.1.symm) hown (hts _ mwX2_reckon_10) (hts _ mwX2_reckon_11) (hts _ mwX2_reckon_8) (hts _ mwX2_reckon_12) (Nat.le_of_ble_eq_true rfl) (Nat.le_of_ble_eq_true rfl) (Nat.zero_le _) (Nat.zero_le _) dX2_reckon_177 ?_
      refine va_mmax_long hx hb (hml.trans hl.1.symm) hown (hts _ mwX2_reckon_10) (hts _ mwX2_reckon_11) (hts _ mwX2_reckon_8) (hts _ mwX2_reckon_12) (Nat.le_of_ble_eq_true rfl) (Nat.le_of_ble_eq_true rfl) (Nat.zero_le _) (Nat.zero_le _) dX2_reckon_180 ?_
      refine va_put (D := (dC, dI)) (ci := 2) (v := .long (if (if (u3 * u4) < (u3 * u2) then (u3 * u2) else (u3 * u4)) < (if (u1 * u4) < (u1 * u2) then (u1 * u2) else (u1 * u4)) then (if (u1 * u4) < (u1 * u2) then (u1 * u2) else (u1 * u4)) else (if (u3 * u4) < (u3 * u2) then (u3 * u2) else (u3 * u4)))) (ty := .long) (C := RX2) (T := TX2) (N := 9) hx hb hts hwX2_reckon_RX2 tyX2 tyX2_ok nmX2 hown hK hP hD hS 23 rfl rfl 5 (by decide) (hts _ mwX2_reckon_5) (fun _ h9 => h9) rfl (by decide +kernel) rfl rfl (Nat.le_of_ble_eq_true rfl) dX2_reckon_183 (fun H locs hP hD hS => ?_)
      have hP : va_P (dC, dI) vwCl (wC q cI cJ cZ nr wd sg lw hg fr to sn pl kd tg sa sb bn mt pa ob tb fo rv ro tk ov sh tu rk cb (if (if (u3 * u4) < (u3 * u2) then (u3 * u4) else (u3 * u2)) < (if (u1 * u4) < (u1 * u2) then (u1 * u4) else (u1 * u2)) then (if (u3 * u4) < (u3 * u2) then (u3 * u4) else (u3 * u2)) else (if (u1 * u4) < (u1 * u2) then (u1 * u4) else (u1 * u2))) (if (if (u3 * u4) < (u3 * u2) then (u3 * u2) else (u3 * u4)) < (if (u1 * u4) < (u1 * u2) then (u1 * u2) else (u1 * u4)) then (if (u1 * u4) < (u1 * u2) then (u1 * u2) else (u1 * u4)) else (if (u3 * u4) < (u3 * u2) then (u3 * u2) else (u3 * u4))) rl rg tf kn tl th tv) H := hP
      have hD : va_D A (wC q cI cJ cZ nr wd sg lw hg fr to sn pl kd tg sa sb bn mt pa ob tb fo rv ro tk ov sh tu rk cb (if (if (u3 * u4) < (u3 * u2) then (u3 * u4) else (u3 * u2)) < (if (u1 * u4) < (u1 * u2) then (u1 * u4) else (u1 * u2)) then (if (u3 * u4) < (u3 * u2) then (u3 * u4) else (u3 * u2)) else (if (u1 * u4) < (u1 * u2) then (u1 * u4) else (u1 * u2))) (if (if (u3 * u4) < (u3 * u2) then (u3 * u2) else (u3 * u4)) < (if (u1 * u4) < (u1 * u2) then (u1 * u2) else (u1 * u4)) then (if (u1 * u4) < (u1 * u2) then (u1 * u2) else (u1 * u4)) else (if (u3 * u4) < (u3 * u2) then (u3 * u2) else (u3 * u4))) rl rg tf kn tl th tv) := hD
      refine lv_goto (tgt := 287) hx hb dX2_reckon_186 (by decide) ?_
      obtain rfl := Option.some.inj hres
      exact ret_V C0 hP hD hS dX2_reckon_287
    · replace hres := mi_n c_7 hres
      by_cases c_8 : (kd (Int32.toNatClampNeg x1)) = (7 : Int32)
      · replace hres := mi_p c_8 hres
        refine sw_tab (tgt := 189) hx hb dX2_reckon_68 (by decide) (by have h9 := c_8 <;> (rw [h9]; decide)) ?_
        refine lv_aload_n hx hb dX2_reckon_189 rfl (lv_at hl 5 rfl) ?_
        refine va_get (D := (dC, dI)) (ci := 2) (v := .ref (q 1)) (C := RX2) (T := TX2) (N := 9) hx hb hts hwX2_reckon_RX2 hown hK hP 23 rfl rfl 6 (by decide) (hts _ mwX2_reckon_13) (fun _ h9 => h9) rfl dX2_reckon_190 ?_
        refine lv_aload_n hx hb dX2_reckon_193 rfl (lv_at hl 5 rfl) ?_
        refine va_get (D := (dC, dI)) (ci := 2) (v := .ref (q 9)) (C := RX2) (T := TX2) (N := 9) hx hb hts hwX2_reckon_RX2 hown hK hP 23 rfl rfl 7 (by decide) (hts _ mwX2_reckon_0) (fun _ h9 => h9) rfl dX2_reckon_194 ?_
        refine va_get (D := (dC, dI)) (ci := 4) (v := .ref (q 12)) (C := RX4) (T := TX4) (N := 9) hx hb hts hwX2_reckon_RX4 hown hK hP 9 rfl rfl 2 (by decide) (hts _ mwX2_reckon_14) (fun _ h9 => h9) rfl dX2_reckon_197 ?_
        refine lv_iload_n hx hb dX2_reckon_200 rfl (lv_at hl 6 rfl) ?_
        refine va_iald (D := (dC, dI)) (cl := vwCl) hx hb hK hP 12 0 rfl rfl g_5 dX2_reckon_201 ?_
        refine lv_aload_n hx hb dX2_reckon_202 rfl (lv_at hl 5 rfl) ?_
        refine va_get (D := (dC, dI)) (ci := 2) (v := .ref (q 9)) (C := RX2) (T := TX2) (N := 9) hx hb hts hwX2_reckon_RX2 hown hK hP 23 rfl rfl 7 (by decide) (hts _ mwX2_reckon_0) (fun _ h9 => h9) rfl dX2_reckon_203 ?_
        refine va_get (D := (dC, dI)) (ci := 4) (v := .ref (q 13)) (C := RX4) (T := TX4) (N := 9) hx hb hts hwX2_reckon_RX4 hown hK hP 9 rfl rfl 3 (by decide) (hts _ mwX2_reckon_15) (fun _ h9 => h9) rfl dX2_reckon_206 ?_
        refine lv_iload_n hx hb dX2_reckon_209 rfl (lv_at hl 6 rfl) ?_
        refine va_iald (D := (dC, dI)) (cl := vwCl) hx hb hK hP 13 0 rfl rfl g_5 dX2_reckon_210 ?_
        obtain ⟨u9, hu9, hres⟩ := mi_b hres
        refine call_I C0 (run_V C0 (rest := []) (kX1_signedAlike l dC dI q cI cJ cZ nr wd sg lw hg fr to sn pl kd tg sa sb bn mt pa ob tb fo rv ro tk ov sh tu rk cb rlo rhi rl rg tf kn tl th tv  (sa (Int32.toNatClampNeg x1)) (sb (Int32.toNatClampNeg x1)) u9 hu9 _) (cwV 2 hts gX2_reckon_X1_signedAlike rfl rfl rfl (by decide +kernel) ⟨by decide, by decide⟩) hP hD (ci := 1) (q0 := 1) rfl rfl rfl hl.1 rfl (Nat.le_of_ble_eq_true rfl) dX2_reckon_211) hD hS (fun H locs hP hD hS => ?_)
        refine lv_istore (lv' := [(11, .int u9), (10, .int (kd (Int32.toNatClampNeg x1))), (8, .long u4), (6, .long u3), (4, .long u2), (2, .long u1), (0, .ref (q 23)), (1, .int x1)]) hx hb dX2_reckon_214 hl (by decide) rfl (fun ls hl => ?_)
        refine lv_aload_n hx hb dX2_reckon_216 rfl (lv_at hl 6 rfl) ?_
        refine lv_iload hx hb dX2_reckon_217 (lv_at hl 0 rfl) ?_
        refine lv_if_eq (tgt := 234) hx hb dX2_reckon_219 (by decide) (fun c_10 => ?_) (fun c_10 => ?_)
        · replace hres := mi_p c_10 hres
          refine lv_lconst (v := (0 : Int64)) hx hb dX2_reckon_234 (by decide) ?_
          refine va_put (D := (dC, dI)) (ci := 2) (v := .long (0 : Int64)) (ty := .long) (C := RX2) (T := TX2) (N := 9) hx hb hts hwX2_reckon_RX2 tyX2 tyX2_ok nmX2 hown hK hP hD hS 23 rfl rfl 4 (by decide) (hts _ mwX2_reckon_4) (fun _ h9 => h9) rfl (by decide +kernel) rfl rfl (Nat.le_of_ble_eq_true rfl) dX2_reckon_235 (fun H locs hP hD hS => ?_)
          have hP : va_P (dC, dI) vwCl (wC q cI cJ cZ nr wd sg lw hg fr to sn pl kd tg sa sb bn mt pa ob tb fo rv ro tk ov sh tu rk cb (0 : Int64) rhi rl rg tf kn tl th tv) H := hP
          have hD : va_D A (wC q cI cJ cZ nr wd sg lw hg fr to sn pl kd tg sa sb bn mt pa ob tb fo rv ro tk ov sh tu rk cb (0 : Int64) rhi rl rg tf kn tl th tv) := hD
          refine lv_aload_n hx hb dX2_reckon_238 rfl (lv_at hl 6 rfl) ?_
          refine lv_iload hx hb dX2_reckon_239 (lv_at hl 0 rfl) ?_
          refine lv_if_eq (tgt := 255) hx hb dX2_reckon_241 (by decide) (fun c_11 => ?_) (fun c_11 => ?_)
          · replace hres := mi_p c_11 hres
            refine lv_lconst (v := (1 : Int64)) hx hb dX2_reckon_255 (by decide) ?_
            refine va_put (D := (dC, dI)) (ci := 2) (v := .long (1 : Int64)) (ty := .long) (C := RX2) (T := TX2) (N := 9) hx hb hts hwX2_reckon_RX2 tyX2 tyX2_ok nmX2 hown hK hP hD hS 23 rfl rfl 5 (by decide) (hts _ mwX2_reckon_5) (fun _ h9 => h9) rfl (by decide +kernel) rfl rfl (Nat.le_of_ble_eq_true rfl) dX2_reckon_256 (fun H locs hP hD hS => ?_)
            have hP : va_P (dC, dI) vwCl (wC q cI cJ cZ nr wd sg lw hg fr to sn pl kd tg sa sb bn mt pa ob tb fo rv ro tk ov sh tu rk cb (0 : Int64) (1 : Int64) rl rg tf kn tl th tv) H := hP
            have hD : va_D A (wC q cI cJ cZ nr wd sg lw hg fr to sn pl kd tg sa sb bn mt pa ob tb fo rv ro tk ov sh tu rk cb (0 : Int64) (1 : Int64) rl rg tf kn tl th tv) := hD
            refine lv_goto (tgt := 287) hx hb dX2_reckon_259 (by decide) ?_
            obtain rfl := Option.some.inj hres
            exact ret_V C0 hP hD hS dX2_reckon_287
          · replace hres := mi_n c_11 hres
            refine lv_lload_n hx hb dX2_reckon_244 rfl (lv_at hl 5 rfl) ?_
            refine lv_lload hx hb dX2_reckon_245 (lv_at hl 2 rfl) ?_
            refine W.lcmp hx hb dX2_reckon_247 ?_
            refine lv_if_lt (tgt := 255) hx hb dX2_reckon_248 (by decide) (fun c_12 => ?_) (fun c_12 => ?_)
            · rw [lg_cmp_lt] at c_12
              replace hres := mi_p c_12 hres
              refine lv_lconst (v := (1 : Int64)) hx hb dX2_reckon_255 (by decide) ?_
              refine va_put (D := (dC, dI)) (ci := 2) (v := .long (1 : Int64)) (ty := .long) (C := RX2) (T := TX2) (N := 9) hx hb hts hwX2_reckon_RX2 tyX2 tyX2_ok nmX2 hown hK hP hD hS 23 rfl rfl 5 (by decide) (hts _ mwX2_reckon_5) (fun _ h9 => h9) rfl (by decide +kernel) rfl rfl (Nat.le_of_ble_eq_true rfl) dX2_reckon_256 (fun H locs hP hD hS => ?_)
              have hP : va_P (dC, dI) vwCl (wC q cI cJ cZ nr wd sg lw hg fr to sn pl kd tg sa sb bn mt pa ob tb fo rv ro tk ov sh tu rk cb (0 : Int64) (1 : Int64) rl rg tf kn tl th tv) H := hP
              have hD : va_D A (wC q cI cJ cZ nr wd sg lw hg fr to sn pl kd tg sa sb bn mt pa ob tb fo rv ro tk ov sh tu rk cb (0 : Int64) (1 : Int64) rl rg tf kn tl th tv) := hD
              refine lv_goto (tgt := 287) hx hb dX2_reckon_259 (by decide) ?_
              obtain rfl := Option.some.inj hres
              exact ret_V C0 hP hD hS dX2_reckon_287
            · rw [lg_cmp_lt] at c_12
              replace hres := mi_n c_12 hres
              refine lv_lconst (v := (0 : Int64)) hx hb dX2_reckon_251 (by decide) ?_
              refine lv_goto (tgt := 256) hx hb dX2_reckon_252 (by decide) ?_
              refine va_put (D := (dC, dI)) (ci := 2) (v := .long (0 : Int64)) (ty := .long) (C := RX2) (T := TX2) (N := 9) hx hb hts hwX2_reckon_RX2 tyX2 tyX2_ok nmX2 hown hK hP hD hS 23 rfl rfl 5 (by decide) (hts _ mwX2_reckon_5) (fun _ h9 => h9) rfl (by decide +kernel) rfl rfl (Nat.le_of_ble_eq_true rfl) dX2_reckon_256 (fun H locs hP hD hS => ?_)
              have hP : va_P (dC, dI) vwCl (wC q cI cJ cZ nr wd sg lw hg fr to sn pl kd tg sa sb bn mt pa ob tb fo rv ro tk ov sh tu rk cb (0 : Int64) (0 : Int64) rl rg tf kn tl th tv) H := hP
              have hD : va_D A (wC q cI cJ cZ nr wd sg lw hg fr to sn pl kd tg sa sb bn mt pa ob tb fo rv ro tk ov sh tu rk cb (0 : Int64) (0 : Int64) rl rg tf kn tl th tv) := hD
              refine lv_goto (tgt := 287) hx hb dX2_reckon_259 (by decide) ?_
              obtain rfl := Option.some.inj hres
              exact ret_V C0 hP hD hS dX2_reckon_287
        · replace hres := mi_n c_10 hres
          refine lv_lload hx hb dX2_reckon_222 (lv_at hl 3 rfl) ?_
          refine lv_lload hx hb dX2_reckon_224 (lv_at hl 4 rfl) ?_
          refine W.lcmp hx hb dX2_reckon_226 ?_
          refine lv_if_ge (tgt := 234) hx hb dX2_reckon_227 (by decide) (fun c_13 => ?_) (fun c_13 => ?_)
          · rw [lg_cmp_ge] at c_13
            replace hres := mi_p c_13 hres
            refine lv_lconst (v := (0 : Int64)) hx hb dX2_reckon_234 (by decide) ?_
            refine va_put (D := (dC, dI)) (ci := 2) (v := .long (0 : Int64)) (ty := .long) (C := RX2) (T := TX2) (N := 9) hx hb hts hwX2_reckon_RX2 tyX2 tyX2_ok nmX2 hown hK hP hD hS 23 rfl rfl 4 (by decide) (hts _ mwX2_reckon_4) (fun _ h9 => h9) rfl (by decide +kernel) rfl rfl (Nat.le_of_ble_eq_true rfl) dX2_reckon_235 (fun H locs hP hD hS => ?_)
            have hP : va_P (dC, dI) vwCl (wC q cI cJ cZ nr wd sg lw hg fr to sn pl kd tg sa sb bn mt pa ob tb fo rv ro tk ov sh tu rk cb (0 : Int64) rhi rl rg tf kn tl th tv) H := hP
            have hD : va_D A (wC q cI cJ cZ nr wd sg lw hg fr to sn pl kd tg sa sb bn mt pa ob tb fo rv ro tk ov sh tu rk cb (0 : Int64) rhi rl rg tf kn tl th tv) := hD
            refine lv_aload_n hx hb dX2_reckon_238 rfl (lv_at hl 6 rfl) ?_
            refine lv_iload hx hb dX2_reckon_239 (lv_at hl 0 rfl) ?_
            refine lv_if_eq (tgt := 255) hx hb dX2_reckon_241 (by decide) (fun c_14 => ?_) (fun c_14 => ?_)
            · replace hres := mi_p c_14 hres
              refine lv_lconst (v := (1 : Int64)) hx hb dX2_reckon_255 (by decide) ?_
              refine va_put (D := (dC, dI)) (ci := 2) (v := .long (1 : Int64)) (ty := .long) (C := RX2) (T := TX2) (N := 9) hx hb hts hwX2_reckon_RX2 tyX2 tyX2_ok nmX2 hown hK hP hD hS 23 rfl rfl 5 (by decide) (hts _ mwX2_reckon_5) (fun _ h9 => h9) rfl (by decide +kernel) rfl rfl (Nat.le_of_ble_eq_true rfl) dX2_reckon_256 (fun H locs hP hD hS => ?_)
              have hP : va_P (dC, dI) vwCl (wC q cI cJ cZ nr wd sg lw hg fr to sn pl kd tg sa sb bn mt pa ob tb fo rv ro tk ov sh tu rk cb (0 : Int64) (1 : Int64) rl rg tf kn tl th tv) H := hP
              have hD : va_D A (wC q cI cJ cZ nr wd sg lw hg fr to sn pl kd tg sa sb bn mt pa ob tb fo rv ro tk ov sh tu rk cb (0 : Int64) (1 : Int64) rl rg tf kn tl th tv) := hD
              refine lv_goto (tgt := 287) hx hb dX2_reckon_259 (by decide) ?_
              obtain rfl := Option.some.inj hres
              exact ret_V C0 hP hD hS dX2_reckon_287
            · replace hres := mi_n c_14 hres
              refine lv_lload_n hx hb dX2_reckon_244 rfl (lv_at hl 5 rfl) ?_
              refine lv_lload hx hb dX2_reckon_245 (lv_at hl 2 rfl) ?_
              refine W.lcmp hx hb dX2_reckon_247 ?_
              refine lv_if_lt (tgt := 255) hx hb dX2_reckon_248 (by decide) (fun c_15 => ?_) (fun c_15 => ?_)
              · rw [lg_cmp_lt] at c_15
                replace hres := mi_p c_15 hres
                refine lv_lconst (v := (1 : Int64)) hx hb dX2_reckon_255 (by decide) ?_
                refine va_put (D := (dC, dI)) (ci := 2) (v := .long (1 : Int64)) (ty := .long) (C := RX2) (T := TX2) (N := 9) hx hb hts hwX2_reckon_RX2 tyX2 tyX2_ok nmX2 hown hK hP hD hS 23 rfl rfl 5 (by decide) (hts _ mwX2_reckon_5) (fun _ h9 => h9) rfl (by decide +kernel) rfl rfl (Nat.le_of_ble_eq_true rfl) dX2_reckon_256 (fun H locs hP hD hS => ?_)
                have hP : va_P (dC, dI) vwCl (wC q cI cJ cZ nr wd sg lw hg fr to sn pl kd tg sa sb bn mt pa ob tb fo rv ro tk ov sh tu rk cb (0 : Int64) (1 : Int64) rl rg tf kn tl th tv) H := hP
                have hD : va_D A (wC q cI cJ cZ nr wd sg lw hg fr to sn pl kd tg sa sb bn mt pa ob tb fo rv ro tk ov sh tu rk cb (0 : Int64) (1 : Int64) rl rg tf kn tl th tv) := hD
                refine lv_goto (tgt := 287) hx hb dX2_reckon_259 (by decide) ?_
                obtain rfl := Option.some.inj hres
                exact ret_V C0 hP hD hS dX2_reckon_287
              · rw [lg_cmp_lt] at c_15
                replace hres := mi_n c_15 hres
                refine lv_lconst (v := (0 : Int64)) hx hb dX2_reckon_251 (by decide) ?_
                refine lv_goto (tgt := 256) hx hb dX2_reckon_252 (by decide) ?_
                refine va_put (D := (dC, dI)) (ci := 2) (v := .long (0 : Int64)) (ty := .long) (C := RX2) (T := TX2) (N := 9) hx hb hts hwX2_reckon_RX2 tyX2 tyX2_ok nmX2 hown hK hP hD hS 23 rfl rfl 5 (by decide) (hts _ mwX2_reckon_5) (fun _ h9 => h9) rfl (by decide +kernel) rfl rfl (Nat.le_of_ble_eq_true rfl) dX2_reckon_256 (fun H locs hP hD hS => ?_)
                have hP : va_P (dC, dI) vwCl (wC q cI cJ cZ nr wd sg lw hg fr to sn pl kd tg sa sb bn mt pa ob tb fo rv ro tk ov sh tu rk cb (0 : Int64) (0 : Int64) rl rg tf kn tl th tv) H := hP
                have hD : va_D A (wC q cI cJ cZ nr wd sg lw hg fr to sn pl kd tg sa sb bn mt pa ob tb fo rv ro tk ov sh tu rk cb (0 : Int64) (0 : Int64) rl rg tf kn tl th tv) := hD
                refine lv_goto (tgt := 287) hx hb dX2_reckon_259 (by decide) ?_
                obtain rfl := Option.some.inj hres
                exact ret_V C0 hP hD hS dX2_reckon_287
          · rw [lg_cmp_ge] at c_13
            replace hres := mi_n c_13 hres
            refine lv_lconst (v := (1 : Int64)) hx hb dX2_reckon_230 (by decide) ?_
            refine lv_goto (tgt := 235) hx hb dX2_reckon_231 (by decide) ?_
            refine va_put (D := (dC, dI)) (ci := 2) (v := .long (1 : Int64)) (ty := .long) (C := RX2) (T := TX2) (N := 9) hx hb hts hwX2_reckon_RX2 tyX2 tyX2_ok nmX2 hown hK hP hD hS 23 rfl rfl 4 (by decide) (hts _ mwX2_reckon_4) (fun _ h9 => h9) rfl (by decide +kernel) rfl rfl (Nat.le_of_ble_eq_true rfl) dX2_reckon_235 (fun H locs hP hD hS => ?_)
            have hP : va_P (dC, dI) vwCl (wC q cI cJ cZ nr wd sg lw hg fr to sn pl kd tg sa sb bn mt pa ob tb fo rv ro tk ov sh tu rk cb (1 : Int64) rhi rl rg tf kn tl th tv) H := hP
            have hD : va_D A (wC q cI cJ cZ nr wd sg lw hg fr to sn pl kd tg sa sb bn mt pa ob tb fo rv ro tk ov sh tu rk cb (1 : Int64) rhi rl rg tf kn tl th tv) := hD
            refine lv_aload_n hx hb dX2_reckon_238 rfl (lv_at hl 6 rfl) ?_
            refine lv_iload hx hb dX2_reckon_239 (lv_at hl 0 rfl) ?_
            refine lv_if_eq (tgt := 255) hx hb dX2_reckon_241 (by decide) (fun c_16 => ?_) (fun c_16 => ?_)
            · replace hres := mi_p c_16 hres
              refine lv_lconst (v := (1 : Int64)) hx hb dX2_reckon_255 (by decide) ?_
              refine va_put (D := (dC, dI)) (ci := 2) (v := .long (1 : Int64)) (ty := .long) (C := RX2) (T := TX2) (N := 9) hx hb hts hwX2_reckon_RX2 tyX2 tyX2_ok nmX2 hown hK hP hD hS 23 rfl rfl 5 (by decide) (hts _ mwX2_reckon_5) (fun _ h9 => h9) rfl (by decide +kernel) rfl rfl (Nat.le_of_ble_eq_true rfl) dX2_reckon_256 (fun H locs hP hD hS => ?_)
              have hP : va_P (dC, dI) vwCl (wC q cI cJ cZ nr wd sg lw hg fr to sn pl kd tg sa sb bn mt pa ob tb fo rv ro tk ov sh tu rk cb (1 : Int64) (1 : Int64) rl rg tf kn tl th tv) H := hP
              have hD : va_D A (wC q cI cJ cZ nr wd sg lw hg fr to sn pl kd tg sa sb bn mt pa ob tb fo rv ro tk ov sh tu rk cb (1 : Int64) (1 : Int64) rl rg tf kn tl th tv) := hD
              refine lv_goto (tgt := 287) hx hb dX2_reckon_259 (by decide) ?_
              obtain rfl := Option.some.inj hres
              exact ret_V C0 hP hD hS dX2_reckon_287
            · replace hres := mi_n c_16 hres
              refine lv_lload_n hx hb dX2_reckon_244 rfl (lv_at hl 5 rfl) ?_
              refine lv_lload hx hb dX2_reckon_245 (lv_at hl 2 rfl) ?_
              refine W.lcmp hx hb dX2_reckon_247 ?_
              refine lv_if_lt (tgt := 255) hx hb dX2_reckon_248 (by decide) (fun c_17 => ?_) (fun c_17 => ?_)
              · rw [lg_cmp_lt] at c_17
                replace hres := mi_p c_17 hres
                refine lv_lconst (v := (1 : Int64)) hx hb dX2_reckon_255 (by decide) ?_
                refine va_put (D := (dC, dI)) (ci := 2) (v := .long (1 : Int64)) (ty := .long) (C := RX2) (T := TX2) (N := 9) hx hb hts hwX2_reckon_RX2 tyX2 tyX2_ok nmX2 hown hK hP hD hS 23 rfl rfl 5 (by decide) (hts _ mwX2_reckon_5) (fun _ h9 => h9) rfl (by decide +kernel) rfl rfl (Nat.le_of_ble_eq_true rfl) dX2_reckon_256 (fun H locs hP hD hS => ?_)
                have hP : va_P (dC, dI) vwCl (wC q cI cJ cZ nr wd sg lw hg fr to sn pl kd tg sa sb bn mt pa ob tb fo rv ro tk ov sh tu rk cb (1 : Int64) (1 : Int64) rl rg tf kn tl th tv) H := hP
                have hD : va_D A (wC q cI cJ cZ nr wd sg lw hg fr to sn pl kd tg sa sb bn mt pa ob tb fo rv ro tk ov sh tu rk cb (1 : Int64) (1 : Int64) rl rg tf kn tl th tv) := hD
                refine lv_goto (tgt := 287) hx hb dX2_reckon_259 (by decide) ?_
                obtain rfl := Option.some.inj hres
                exact ret_V C0 hP hD hS dX2_reckon_287
              · rw [lg_cmp_lt] at c_17
                replace hres := mi_n c_17 hres
                refine lv_lconst (v := (0 : Int64)) hx hb dX2_reckon_251 (by decide) ?_
                refine lv_goto (tgt := 256) hx hb dX2_reckon_252 (by decide) ?_
                refine va_put (D := (dC, dI)) (ci := 2) (v := .long (0 : Int64)) (ty := .long) (C := RX2) (T := TX2) (N := 9) hx hb hts hwX2_reckon_RX2 tyX2 tyX2_ok nmX2 hown hK hP hD hS 23 rfl rfl 5 (by decide) (hts _ mwX2_reckon_5) (fun _ h9 => h9) rfl (by decide +kernel) rfl rfl (Nat.le_of_ble_eq_true rfl) dX2_reckon_256 (fun H locs hP hD hS => ?_)
                have hP : va_P (dC, dI) vwCl (wC q cI cJ cZ nr wd sg lw hg fr to sn pl kd tg sa sb bn mt pa ob tb fo rv ro tk ov sh tu rk cb (1 : Int64) (0 : Int64) rl rg tf kn tl th tv) H := hP
                have hD : va_D A (wC q cI cJ cZ nr wd sg lw hg fr to sn pl kd tg sa sb bn mt pa ob tb fo rv ro tk ov sh tu rk cb (1 : Int64) (0 : Int64) rl rg tf kn tl th tv) := hD
                refine lv_goto (tgt := 287) hx hb dX2_reckon_259 (by decide) ?_
                obtain rfl := Option.some.inj hres
                exact ret_V C0 hP hD hS dX2_reckon_287
      · replace hres := mi_n c_8 hres
        refine sw_tab (tgt := 262) hx hb dX2_reckon_68 (by decide) (by
          have n_3 : ¬ Int32.toInt (kd (Int32.toNatClampNeg x1)) = 3 := lv_neT (k := (3 : Int32)) (fun h9 => c_6 (h9)) (by decide)
          have n_4 : ¬ Int32.toInt (kd (Int32.toNatClampNeg x1)) = 4 := lv_neT (k := (4 : Int32)) (fun h9 => c_7 (h9)) (by decide)
          have n_7 : ¬ Int32.toInt (kd (Int32.toNatClampNeg x1)) = 7 := lv_neT (k := (7 : Int32)) (fun h9 => c_8 (h9)) (by decide)
          unfold swt
          split
          · decide
          · have e9 : Int32.toInt (kd (Int32.toNatClampNeg x1)) = 5 ∨ Int32.toInt (kd (Int32.toNatClampNeg x1)) = 6 := by omega
            rcases e9 with e9 | e9 <;> (rw [e9]; decide)) ?_
        refine lv_aload_n hx hb dX2_reckon_262 rfl (lv_at hl 5 rfl) ?_
        refine lv_iload hx hb dX2_reckon_263 (lv_at hl 0 rfl) ?_
        refine lv_lload_n hx hb dX2_reckon_265 rfl (lv_at hl 4 rfl) ?_
        refine lv_lload hx hb dX2_reckon_266 (lv_at hl 3 rfl) ?_
        obtain ⟨u18, hu18, hres⟩ := mi_b hres
        refine call_L C0 (run_SN C0 (rest := [.ref (q 23)]) (kX7_made l (dC, dI) (ty3 cI cJ cZ) (wC q cI cJ cZ nr wd sg lw hg fr to sn pl kd tg sa sb bn mt pa ob tb fo rv ro tk ov sh tu rk cb rlo rhi rl rg tf kn tl th tv) (kd (Int32.toNatClampNeg x1)) u1 u2 u18 hu18 _) ⟨va_cnB (host := RX7) 3 hts gX2_reckon_X7_made_n129 rfl rfl rfl (hN (.methodLinkNest RX2 129 yX7_made RX7) (by decide +kernel)) (hts _ mwX2_reckon_16) (by decide +kernel) ⟨by decide, by decide⟩, (hts _ mwX2_reckon_17), trivial⟩ hP hD rfl hl.1 rfl (Nat.le_of_ble_eq_true rfl) dX2_reckon_268) hD hS (fun H locs hP hD hS => ?_)
        refine va_put (D := (dC, dI)) (ci := 2) (v := .long u18) (ty := .long) (C := RX2) (T := TX2) (N := 9) hx hb hts hwX2_reckon_RX2 tyX2 tyX2_ok nmX2 hown hK hP hD hS 23 rfl rfl 4 (by decide) (hts _ mwX2_reckon_4) (fun _ h9 => h9) rfl (by decide +kernel) rfl rfl (Nat.le_of_ble_eq_true rfl) dX2_reckon_271 (fun H locs hP hD hS => ?_)
        have hP : va_P (dC, dI) vwCl (wC q cI cJ cZ nr wd sg lw hg fr to sn pl kd tg sa sb bn mt pa ob tb fo rv ro tk ov sh tu rk cb u18 rhi rl rg tf kn tl th tv) H := hP
        have hD : va_D A (wC q cI cJ cZ nr wd sg lw hg fr to sn pl kd tg sa sb bn mt pa ob tb fo rv ro tk ov sh tu rk cb u18 rhi rl rg tf kn tl th tv) := hD
        refine lv_aload_n hx hb dX2_reckon_274 rfl (lv_at hl 5 rfl) ?_
        refine lv_iload hx hb dX2_reckon_275 (lv_at hl 0 rfl) ?_
        refine lv_lload hx hb dX2_reckon_277 (lv_at hl 2 rfl) ?_
        refine lv_lload hx hb dX2_reckon_279 (lv_at hl 1 rfl) ?_
        obtain ⟨u19, hu19, hres⟩ := mi_b hres
        refine call_L C0 (run_SN C0 (rest := [.ref (q 23)]) (kX7_made l (dC, dI) (ty3 cI cJ cZ) (wC q cI cJ cZ nr wd sg lw hg fr to sn pl kd tg sa sb bn mt pa ob tb fo rv ro tk ov sh tu rk cb u18 rhi rl rg tf kn tl th tv) (kd (Int32.toNatClampNeg x1)) u3 u4 u19 hu19 _) ⟨va_cnB (host := RX7) 3 hts gX2_reckon_X7_made_n129 rfl rfl rfl (hN (.methodLinkNest RX2 129 yX7_made RX7) (by decide +kernel)) (hts _ mwX2_reckon_16) (by decide +kernel) ⟨by decide, by decide⟩, (hts _ mwX2_reckon_17), trivial⟩ hP hD rfl hl.1 rfl (Nat.le_of_ble_eq_true rfl) dX2_reckon_281) hD hS (fun H locs hP hD hS => ?_)
        refine va_put (D := (dC, dI)) (ci := 2) (v := .long u19) (ty := .long) (C := RX2) (T := TX2) (N := 9) hx hb hts hwX2_reckon_RX2 tyX2 tyX2_ok nmX2 hown hK hP hD hS 23 rfl rfl 5 (by decide) (hts _ mwX2_reckon_5) (fun _ h9 => h9) rfl (by decide +kernel) rfl rfl (Nat.le_of_ble_eq_true rfl) dX2_reckon_284 (fun H locs hP hD hS => ?_)
        have hP : va_P (dC, dI) vwCl (wC q cI cJ cZ nr wd sg lw hg fr to sn pl kd tg sa sb bn mt pa ob tb fo rv ro tk ov sh tu rk cb u18 u19 rl rg tf kn tl th tv) H := hP
        have hD : va_D A (wC q cI cJ cZ nr wd sg lw hg fr to sn pl kd tg sa sb bn mt pa ob tb fo rv ro tk ov sh tu rk cb u18 u19 rl rg tf kn tl th tv) := hD
        obtain rfl := Option.some.inj hres
        exact ret_V C0 hP hD hS dX2_reckon_287
/-! ### SumsOver$Reach.perform(I)V -/
set_option maxRecDepth 20000 in
theorem hwX2_perform_RX2 : ∀ w ∈ u_ws RX2 TX2 9, w ∈ wsX2_perform := by decide +kernel
theorem mwX2_perform_0 : (.fieldLink RX2 22 "SumsOver$Reach" "steps" "LSumsOver$Steps;" : Cond) ∈ wsX2_perform := by decide +kernel
set_option maxRecDepth 20000 in
theorem hwX2_perform_RX4 : ∀ w ∈ u_ws RX4 TX4 9, w ∈ wsX2_perform := by decide +kernel
theorem mwX2_perform_1 : (.fieldLink RX2 75 "SumsOver$Steps" "targets" "[I" : Cond) ∈ wsX2_perform := by decide +kernel
theorem mwX2_perform_2 : (.fieldLink RX2 30 "SumsOver$Reach" "couldBits" "I" : Cond) ∈ wsX2_perform := by decide +kernel
def rmX2_perform : Room := { frames := 3, cells := 0, slots := 0, locals := 78 }
set_option maxHeartbeats 4000000 in
set_option maxRecDepth 100000 in
theorem kX2_perform (l : Launch) (dC : Nat → ClassId) (dI : Nat → Nat → Nat) (q : Nat → Nat) (cI cJ cZ : ClassId) (nr : Int32) (wd : Nat → Int32) (sg : Nat → Int32) (lw : Nat → Int64) (hg : Nat → Int64) (fr : Nat → Int32) (to : Nat → Int32) (sn : Int32) (pl : Int32) (kd : Nat → Int32) (tg : Nat → Int32) (sa : Nat → Int32) (sb : Nat → Int32) (bn : Nat → Int32) (mt : Nat → Int32) (pa : Nat → Int32) (ob : Int32) (tb : Int32) (fo : Int32) (rv : Nat → Int64) (ro : Int32) (tk : Int32) (ov : Nat → Int32) (sh : Nat → Int32) (tu : Nat → Int32) (rk : Int32) (cb : Int32) (rlo : Int64) (rhi : Int64) (rl : Nat → Int64) (rg : Nat → Int64) (tf : Int32) (kn : Int32) (tl : Nat → Int64) (th : Nat → Int64) (tv : Nat → Int64) (x1 : Int32) (RES : (Int32) × (Int64) × (Int64) × (Nat → Int64) × (Nat → Int64)) (hres : mX2_perform nr sg lw hg kd tg sa sb bn cb rlo rhi rl rg x1 = some RES) : CtV l yX2_perform wsX2_perform rmX2_perform (dC, dI) (ty3 cI cJ cZ) (wC q cI cJ cZ nr wd sg lw hg fr to sn pl kd tg sa sb bn mt pa ob tb fo rv ro tk ov sh tu rk cb rlo rhi rl rg tf kn tl th tv) [.ref (q 23), .int x1] (wC q cI cJ cZ nr wd sg lw hg fr to sn pl kd tg sa sb bn mt pa ob tb fo rv ro tk ov sh tu rk RES.1 RES.2.1 RES.2.2.1 RES.2.2.2.1 RES.2.2.2.2 tf kn tl th tv) := by
  intro sz
  refine ct_entry (cc := cX2_perform) (maxL := 3) (ret := none) (own := RX2) (by decide) rfl rfl (Nat.le_of_ble_eq_true rfl) (ll := [(0, .ref (q 23)), (1, .int x1)]) rfl ?_
  intro p e s m args below meth c hsz C0 _ hP hD ls hl
  have C1 := C0
  obtain ⟨hx, hb, hr, hml, hown, hts, hlocks, hN, hK, hA⟩ := C1
  have hS : va_S (va_A (wC q cI cJ cZ nr wd sg lw hg fr to sn pl kd tg sa sb bn mt pa ob tb fo rv ro tk ov sh tu rk cb rlo rhi rl rg tf kn tl th tv) sz) s.heap s.heap [] := va_S.rf
  generalize va_A (wC q cI cJ cZ nr wd sg lw hg fr to sn pl kd tg sa sb bn mt pa ob tb fo rv ro tk ov sh tu rk cb rlo rhi rl rg tf kn tl th tv) sz = A at C0 hD hA hS ⊢
  show W p l e rmX2_perform s m args below meth c s.heap [] 0 0 (QV below args s A (dC, dI) (ty3 cI cJ cZ) (wC q cI cJ cZ nr wd sg lw hg fr to sn pl kd tg sa sb bn mt pa ob tb fo rv ro tk ov sh tu rk RES.1 RES.2.1 RES.2.2.1 RES.2.2.2.1 RES.2.2.2.2 tf kn tl th tv)) (F0 m 0 ls [])
  unfold mX2_perform at hres
  refine lv_aload_n hx hb dX2_perform_0 rfl (lv_at hl 0 rfl) ?_
  refine va_get (D := (dC, dI)) (ci := 2) (v := .ref (q 9)) (C := RX2) (T := TX2) (N := 9) hx hb hts hwX2_perform_RX2 hown hK hP 23 rfl rfl 7 (by decide) (hts _ mwX2_perform_0) (fun _ h9 => h9) rfl dX2_perform_1 ?_
  refine va_get (D := (dC, dI)) (ci := 4) (v := .ref (q 11)) (C := RX4) (T := TX4) (N := 9) hx hb hts hwX2_perform_RX4 hown hK hP 9 rfl rfl 1 (by decide) (hts _ mwX2_perform_1) (fun _ h9 => h9) rfl dX2_perform_4 ?_
  refine lv_iload_n hx hb dX2_perform_7 rfl (lv_at hl 1 rfl) ?_
  obtain ⟨g_1, hres⟩ := mi_g hres
  refine va_iald (D := (dC, dI)) (cl := vwCl) hx hb hK hP 11 0 rfl rfl g_1 dX2_perform_8 ?_
  refine lv_istore_n (lv' := [(2, .int (tg (Int32.toNatClampNeg x1))), (0, .ref (q 23)), (1, .int x1)]) hx hb dX2_perform_9 rfl hl (by decide) rfl (fun ls hl => ?_)
  refine lv_aload_n hx hb dX2_perform_10 rfl (lv_at hl 1 rfl) ?_
  refine lv_iload_n hx hb dX2_perform_11 rfl (lv_at hl 2 rfl) ?_
  obtain ⟨u2, hu2, hres⟩ := mi_b hres
  refine call_V C0 (run_V C0 (rest := []) (kX2_reckon l dC dI q cI cJ cZ nr wd sg lw hg fr to sn pl kd tg sa sb bn mt pa ob tb fo rv ro tk ov sh tu rk cb rlo rhi rl rg tf kn tl th tv  x1 u2 hu2 _) (cwV 1 hts gX2_perform_X2_reckon rfl rfl rfl (by decide +kernel) ⟨by decide, by decide⟩) hP hD (ci := 2) (q0 := 23) rfl rfl rfl hl.1 rfl (Nat.le_of_ble_eq_true rfl) dX2_perform_12) hD hS (fun H locs hP hD hS => ?_)
  refine lv_aload_n hx hb dX2_perform_15 rfl (lv_at hl 1 rfl) ?_
  refine lv_iload_n hx hb dX2_perform_16 rfl (lv_at hl 0 rfl) ?_
  obtain ⟨u3, hu3, hres⟩ := mi_b hres
  refine call_I C0 (run_V C0 (rest := []) (kX2_fits l dC dI q cI cJ cZ nr wd sg lw hg fr to sn pl kd tg sa sb bn mt pa ob tb fo rv ro tk ov sh tu rk cb u2.1 u2.2 rl rg tf kn tl th tv  (tg (Int32.toNatClampNeg x1)) u3 hu3 _) (cwV 1 hts gX2_perform_X2_fits rfl rfl rfl (by decide +kernel) ⟨by decide, by decide⟩) hP hD (ci := 2) (q0 := 23) rfl rfl rfl hl.1 rfl (Nat.le_of_ble_eq_true rfl) dX2_perform_17) hD hS (fun H locs hP hD hS => ?_)
  refine lv_if_ne (tgt := 35) hx hb dX2_perform_20 (by decide) (fun c_4 => ?_) (fun c_4 => ?_)
  · replace hres := mi_n c_4 hres
    refine lv_aload_n hx hb dX2_perform_35 rfl (lv_at hl 1 rfl) ?_
    refine lv_iload_n hx hb dX2_perform_36 rfl (lv_at hl 0 rfl) ?_
    obtain ⟨u5, hu5, hres⟩ := mi_b hres
    refine call_V C0 (run_V C0 (rest := []) (kX2_settle l dC dI q cI cJ cZ nr wd sg lw hg fr to sn pl kd tg sa sb bn mt pa ob tb fo rv ro tk ov sh tu rk cb u2.1 u2.2 rl rg tf kn tl th tv  (tg (Int32.toNatClampNeg x1)) u5 hu5 _) (cwV 1 hts gX2_perform_X2_settle rfl rfl rfl (by decide +kernel) ⟨by decide, by decide⟩) hP hD (ci := 2) (q0 := 23) rfl rfl rfl hl.1 rfl (Nat.le_of_ble_eq_true rfl) dX2_perform_37) hD hS (fun H locs hP hD hS => ?_)
    obtain rfl := Option.some.inj hres
    exact ret_V C0 hP hD hS dX2_perform_40
  · replace hres := mi_p c_4 hres
    refine lv_aload_n hx hb dX2_perform_23 rfl (lv_at hl 1 rfl) ?_
    refine lv_dup hx hb dX2_perform_24 rfl ?_
    refine va_get (D := (dC, dI)) (ci := 2) (v := .int cb) (C := RX2) (T := TX2) (N := 9) hx hb hts hwX2_perform_RX2 hown hK hP 23 rfl rfl 3 (by decide) (hts _ mwX2_perform_2) (fun _ h9 => h9) rfl dX2_perform_25 ?_
    refine lv_iconst (v := (1 : Int32)) hx hb dX2_perform_28 (by decide) ?_
    refine lv_iload_n hx hb dX2_perform_29 rfl (lv_at hl 2 rfl) ?_
    refine lv_ishl hx hb dX2_perform_30 ?_
    refine lv_ior hx hb dX2_perform_31 ?_
    refine va_put (D := (dC, dI)) (ci := 2) (v := .int (cb ||| ((1 : Int32) <<< (x1 &&& 31)))) (ty := .int) (C := RX2) (T := TX2) (N := 9) hx hb hts hwX2_perform_RX2 tyX2 tyX2_ok nmX2 hown hK hP hD hS 23 rfl rfl 3 (by decide) (hts _ mwX2_perform_2) (fun _ h9 => h9) rfl (by decide +kernel) rfl rfl (Nat.le_of_ble_eq_true rfl) dX2_perform_32 (fun H locs hP hD hS => ?_)
    have hP : va_P (dC, dI) vwCl (wC q cI cJ cZ nr wd sg lw hg fr to sn pl kd tg sa sb bn mt pa ob tb fo rv ro tk ov sh tu rk (cb ||| ((1 : Int32) <<< (x1 &&& 31))) u2.1 u2.2 rl rg tf kn tl th tv) H := hP
    have hD : va_D A (wC q cI cJ cZ nr wd sg lw hg fr to sn pl kd tg sa sb bn mt pa ob tb fo rv ro tk ov sh tu rk (cb ||| ((1 : Int32) <<< (x1 &&& 31))) u2.1 u2.2 rl rg tf kn tl th tv) := hD
    refine lv_aload_n hx hb dX2_perform_35 rfl (lv_at hl 1 rfl) ?_
    refine lv_iload_n hx hb dX2_perform_36 rfl (lv_at hl 0 rfl) ?_
    obtain ⟨u6, hu6, hres⟩ := mi_b hres
    refine call_V C0 (run_V C0 (rest := []) (kX2_settle l dC dI q cI cJ cZ nr wd sg lw hg fr to sn pl kd tg sa sb bn mt pa ob tb fo rv ro tk ov sh tu rk (cb ||| ((1 : Int32) <<< (x1 &&& 31))) u2.1 u2.2 rl rg tf kn tl th tv  (tg (Int32.toNatClampNeg x1)) u6 hu6 _) (cwV 1 hts gX2_perform_X2_settle rfl rfl rfl (by decide +kernel) ⟨by decide, by decide⟩) hP hD (ci := 2) (q0 := 23) rfl rfl rfl hl.1 rfl (Nat.le_of_ble_eq_true rfl) dX2_perform_37) hD hS (fun H locs hP hD hS => ?_)
    obtain rfl := Option.some.inj hres
    exact ret_V C0 hP hD hS dX2_perform_40
/-! ### SumsOver$Reach.learn()V -/
set_option maxRecDepth 20000 in
theorem hwX2_learn_RX2 : ∀ w ∈ u_ws RX2 TX2 9, w ∈ wsX2_learn := by decide +kernel
theorem mwX2_learn_0 : (.fieldLink RX2 34 "SumsOver$Reach" "known" "Z" : Cond) ∈ wsX2_learn := by decide +kernel
theorem mwX2_learn_1 : (.fieldLink RX2 30 "SumsOver$Reach" "couldBits" "I" : Cond) ∈ wsX2_learn := by decide +kernel
theorem mwX2_learn_2 : (.fieldLink RX2 9 "SumsOver$Reach" "least" "[J" : Cond) ∈ wsX2_learn := by decide +kernel
theorem mwX2_learn_3 : (.fieldLink RX2 15 "SumsOver$Reach" "greatest" "[J" : Cond) ∈ wsX2_learn := by decide +kernel
theorem mwX2_learn_4 : (.fieldLink RX2 26 "SumsOver$Reach" "inputs" "LSumsOver$Inputs;" : Cond) ∈ wsX2_learn := by decide +kernel
set_option maxRecDepth 20000 in
theorem hwX2_learn_RX0 : ∀ w ∈ u_ws RX0 TX0 2, w ∈ wsX2_learn := by decide +kernel
theorem mwX2_learn_5 : (.fieldLink RX2 44 "SumsOver$Inputs" "from" "[I" : Cond) ∈ wsX2_learn := by decide +kernel
theorem mwX2_learn_6 : (.fieldLink RX2 50 "SumsOver$Reach" "low" "J" : Cond) ∈ wsX2_learn := by decide +kernel
theorem mwX2_learn_7 : (.fieldLink RX2 54 "SumsOver$Inputs" "to" "[I" : Cond) ∈ wsX2_learn := by decide +kernel
theorem mwX2_learn_8 : (.fieldLink RX2 57 "SumsOver$Reach" "high" "J" : Cond) ∈ wsX2_learn := by decide +kernel
theorem mwX2_learn_9 : (.fieldLink RX2 22 "SumsOver$Reach" "steps" "LSumsOver$Steps;" : Cond) ∈ wsX2_learn := by decide +kernel
set_option maxRecDepth 20000 in
theorem hwX2_learn_RX4 : ∀ w ∈ u_ws RX4 TX4 9, w ∈ wsX2_learn := by decide +kernel
theorem mwX2_learn_10 : (.fieldLink RX2 64 "SumsOver$Steps" "pathLength" "I" : Cond) ∈ wsX2_learn := by decide +kernel
theorem mwX2_learn_11 : (.fieldLink RX2 69 "SumsOver$Steps" "path" "[I" : Cond) ∈ wsX2_learn := by decide +kernel
def rmX2_learn : Room := { frames := 4, cells := 0, slots := 0, locals := 100 }
def iX2_learn_L82 (p : Program) (l : Launch) (e : Env) (s : State) (m : MethodId) (args : Array Value) (below : List Frame) (meth : Method) (c : Code) (A : Nat → Prop) (dC : Nat → ClassId) (dI : Nat → Nat → Nat) (q : Nat → Nat) (cI cJ cZ : ClassId) (nr : Int32) (wd : Nat → Int32) (sg : Nat → Int32) (lw : Nat → Int64) (hg : Nat → Int64) (fr : Nat → Int32) (to : Nat → Int32) (sn : Int32) (pl : Int32) (kd : Nat → Int32) (tg : Nat → Int32) (sa : Nat → Int32) (sb : Nat → Int32) (bn : Nat → Int32) (mt : Nat → Int32) (pa : Nat → Int32) (ob : Int32) (tb : Int32) (fo : Int32) (rv : Nat → Int64) (ro : Int32) (tk : Int32) (ov : Nat → Int32) (sh : Nat → Int32) (tu : Nat → Int32) (tf : Int32) (kn : Int32) (tl : Nat → Int64) (th : Nat → Int64) (tv : Nat → Int64)  (RES : (Int32) × (Int32) × (Int64) × (Int64) × (Nat → Int64) × (Nat → Int64)) (k : (Int32) → (Int32) → (Int64) → (Int64) → (Nat → Int64) → (Nat → Int64) → (Int32) → Option ((Int32) × (Int32) × (Int64) × (Int64) × (Nat → Int64) × (Nat → Int64))) : Prop := ∀ (rk : Int32) (cb : Int32) (rlo : Int64) (rhi : Int64) (rl : Nat → Int64) (rg : Nat → Int64) (x1 : Int32) (H : Heap) (locs : List Loc) (ls : Array Slot), va_P (dC, dI) vwCl (wC q cI cJ cZ nr wd sg lw hg fr to sn pl kd tg sa sb bn mt pa ob tb fo rv ro tk ov sh tu rk cb rlo rhi rl rg tf kn tl th tv) H → va_D A (wC q cI cJ cZ nr wd sg lw hg fr to sn pl kd tg sa sb bn mt pa ob tb fo rv ro tk ov sh tu rk cb rlo rhi rl rg tf kn tl th tv) → va_S A s.heap H locs → lv_has ls 2 [(0, .ref (q 23)), (1, .int x1)] → k rk cb rlo rhi rl rg x1 = some RES → W p l e rmX2_learn s m args below meth c H locs 0 0 (QV below args s A (dC, dI) (ty3 cI cJ cZ) (wC q cI cJ cZ nr wd sg lw hg fr to sn pl kd tg sa sb bn mt pa ob tb fo rv ro tk ov sh tu RES.1 RES.2.1 RES.2.2.1 RES.2.2.2.1 RES.2.2.2.2.1 RES.2.2.2.2.2 tf kn tl th tv)) (F0 m 82 ls [])
def iX2_learn_L36 (p : Program) (l : Launch) (e : Env) (s : State) (m : MethodId) (args : Array Value) (below : List Frame) (meth : Method) (c : Code) (A : Nat → Prop) (dC : Nat → ClassId) (dI : Nat → Nat → Nat) (q : Nat → Nat) (cI cJ cZ : ClassId) (nr : Int32) (wd : Nat → Int32) (sg : Nat → Int32) (lw : Nat → Int64) (hg : Nat → Int64) (fr : Nat → Int32) (to : Nat → Int32) (sn : Int32) (pl : Int32) (kd : Nat → Int32) (tg : Nat → Int32) (sa : Nat → Int32) (sb : Nat → Int32) (bn : Nat → Int32) (mt : Nat → Int32) (pa : Nat → Int32) (ob : Int32) (tb : Int32) (fo : Int32) (rv : Nat → Int64) (ro : Int32) (tk : Int32) (ov : Nat → Int32) (sh : Nat → Int32) (tu : Nat → Int32) (tf : Int32) (kn : Int32) (tl : Nat → Int64) (th : Nat → Int64) (tv : Nat → Int64)  (RES : (Int32) × (Int32) × (Int64) × (Int64) × (Nat → Int64) × (Nat → Int64)) (k : (Int32) → (Int32) → (Int64) → (Int64) → (Nat → Int64) → (Nat → Int64) → (Int32) → Option ((Int32) × (Int32) × (Int64) × (Int64) × (Nat → Int64) × (Nat → Int64))) : Prop := ∀ (rk : Int32) (cb : Int32) (rlo : Int64) (rhi : Int64) (rl : Nat → Int64) (rg : Nat → Int64) (x1 : Int32) (H : Heap) (locs : List Loc) (ls : Array Slot), va_P (dC, dI) vwCl (wC q cI cJ cZ nr wd sg lw hg fr to sn pl kd tg sa sb bn mt pa ob tb fo rv ro tk ov sh tu rk cb rlo rhi rl rg tf kn tl th tv) H → va_D A (wC q cI cJ cZ nr wd sg lw hg fr to sn pl kd tg sa sb bn mt pa ob tb fo rv ro tk ov sh tu rk cb rlo rhi rl rg tf kn tl th tv) → va_S A s.heap H locs → lv_has ls 2 [(0, .ref (q 23)), (1, .int x1)] → k rk cb rlo rhi rl rg x1 = some RES → W p l e rmX2_learn s m args below meth c H locs 0 0 (QV below args s A (dC, dI) (ty3 cI cJ cZ) (wC q cI cJ cZ nr wd sg lw hg fr to sn pl kd tg sa sb bn mt pa ob tb fo rv ro tk ov sh tu RES.1 RES.2.1 RES.2.2.1 RES.2.2.2.1 RES.2.2.2.2.1 RES.2.2.2.2.2 tf kn tl th tv)) (F0 m 36 ls [])
set_option maxHeartbeats 4000000 in
set_option maxRecDepth 100000 in
theorem zX2_learn_L82 {p : Program} {l : Launch} {e : Env} {s : State} {m : MethodId} {args : Array Value} {below : List Frame} {meth : Method} {c : Code} {A : Nat → Prop} {dC : Nat → ClassId} {dI : Nat → Nat → Nat} {q : Nat → Nat} {cI cJ cZ : ClassId} {nr : Int32} {wd : Nat → Int32} {sg : Nat → Int32} {lw : Nat → Int64} {hg : Nat → Int64} {fr : Nat → Int32} {to : Nat → Int32} {sn : Int32} {pl : Int32} {kd : Nat → Int32} {tg : Nat → Int32} {sa : Nat → Int32} {sb : Nat → Int32} {bn : Nat → Int32} {mt : Nat → Int32} {pa : Nat → Int32} {ob : Int32} {tb : Int32} {fo : Int32} {rv : Nat → Int64} {ro : Int32} {tk : Int32} {ov : Nat → Int32} {sh : Nat → Int32} {tu : Nat → Int32} {tf : Int32} {kn : Int32} {tl : Nat → Int64} {th : Nat → Int64} {tv : Nat → Int64}  (C0 : Cx p s m args meth c cX2_learn 2 none RX2 wsX2_learn A (dC, dI) (ty3 cI cJ cZ)) {RES : (Int32) × (Int32) × (Int64) × (Int64) × (Nat → Int64) × (Nat → Int64)}  : ∀ n : Nat, iX2_learn_L82 p l e s m args below meth c A dC dI q cI cJ cZ nr wd sg lw hg fr to sn pl kd tg sa sb bn mt pa ob tb fo rv ro tk ov sh tu tf kn tl th tv RES (mX2_learn_L82 nr sg lw hg fr to pl kd tg sa sb bn pa n) := by
  have C1 := C0
  obtain ⟨hx, hb, hr, hml, hown, hts, hlocks, hN, hK, hA⟩ := C1
  intro n
  induction n with
  | zero =>
    intro rk cb rlo rhi rl rg x1 H locs ls hP hD hS hl hres
    exact mi_0 hres
  | succ n ih =>
    intro rk cb rlo rhi rl rg x1 H locs ls hP hD hS hl hres
    rw [mX2_learn_L82] at hres
    refine lv_iload_n hx hb dX2_learn_82 rfl (lv_at hl 1 rfl) ?_
    refine lv_aload_n hx hb dX2_learn_83 rfl (lv_at hl 0 rfl) ?_
    refine va_get (D := (dC, dI)) (ci := 2) (v := .ref (q 9)) (C := RX2) (T := TX2) (N := 9) hx hb hts hwX2_learn_RX2 hown hK hP 23 rfl rfl 7 (by decide) (hts _ mwX2_learn_9) (fun _ h9 => h9) rfl dX2_learn_84 ?_
    refine va_get (D := (dC, dI)) (ci := 4) (v := .int pl) (C := RX4) (T := TX4) (N := 9) hx hb hts hwX2_learn_RX4 hown hK hP 9 rfl rfl 8 (by decide) (hts _ mwX2_learn_10) (fun _ h9 => h9) rfl dX2_learn_87 ?_
    refine lv_icmp_ge (tgt := 112) hx hb dX2_learn_90 (by decide) (fun c_7 => ?_) (fun c_7 => ?_)
    · replace hres := mi_p c_7 hres
      obtain rfl := Option.some.inj hres
      exact ret_V C0 hP hD hS dX2_learn_112
    · replace hres := mi_n c_7 hres
      refine lv_aload_n hx hb dX2_learn_93 rfl (lv_at hl 0 rfl) ?_
      refine lv_aload_n hx hb dX2_learn_94 rfl (lv_at hl 0 rfl) ?_
      refine va_get (D := (dC, dI)) (ci := 2) (v := .ref (q 9)) (C := RX2) (T := TX2) (N := 9) hx hb hts hwX2_learn_RX2 hown hK hP 23 rfl rfl 7 (by decide) (hts _ mwX2_learn_9) (fun _ h9 => h9) rfl dX2_learn_95 ?_
      refine va_get (D := (dC, dI)) (ci := 4) (v := .ref (q 16)) (C := RX4) (T := TX4) (N := 9) hx hb hts hwX2_learn_RX4 hown hK hP 9 rfl rfl 7 (by decide) (hts _ mwX2_learn_11) (fun _ h9 => h9) rfl dX2_learn_98 ?_
      refine lv_iload_n hx hb dX2_learn_101 rfl (lv_at hl 1 rfl) ?_
      obtain ⟨g_8, hres⟩ := mi_g hres
      refine va_iald (D := (dC, dI)) (cl := vwCl) hx hb hK hP 16 0 rfl rfl g_8 dX2_learn_102 ?_
      obtain ⟨u9, hu9, hres⟩ := mi_b hres
      refine call_V C0 (run_V C0 (rest := []) (kX2_perform l dC dI q cI cJ cZ nr wd sg lw hg fr to sn pl kd tg sa sb bn mt pa ob tb fo rv ro tk ov sh tu rk cb rlo rhi rl rg tf kn tl th tv  (pa (Int32.toNatClampNeg x1)) u9 hu9 _) (cwV 1 hts gX2_learn_X2_perform rfl rfl rfl (by decide +kernel) ⟨by decide, by decide⟩) hP hD (ci := 2) (q0 := 23) rfl rfl rfl hl.1 rfl (Nat.le_of_ble_eq_true rfl) dX2_learn_103) hD hS (fun H locs hP hD hS => ?_)
      refine lv_iinc (v := x1 + (1 : Int32)) (lv' := [(1, .int (x1 + (1 : Int32))), (0, .ref (q 23))]) hx hb dX2_learn_106 hl (k := 1) rfl rfl (by decide) rfl (fun ls hl => ?_)
      refine lv_goto (tgt := 82) hx hb dX2_learn_109 (by decide) ?_
      exact ih rk u9.1 u9.2.1 u9.2.2.1 u9.2.2.2.1 u9.2.2.2.2 (x1 + (1 : Int32)) _ _ ls hP hD hS (lv_sub hl [1, 0] rfl) hres
set_option maxHeartbeats 4000000 in
set_option maxRecDepth 100000 in
theorem zX2_learn_L36 {p : Program} {l : Launch} {e : Env} {s : State} {m : MethodId} {args : Array Value} {below : List Frame} {meth : Method} {c : Code} {A : Nat → Prop} {dC : Nat → ClassId} {dI : Nat → Nat → Nat} {q : Nat → Nat} {cI cJ cZ : ClassId} {nr : Int32} {wd : Nat → Int32} {sg : Nat → Int32} {lw : Nat → Int64} {hg : Nat → Int64} {fr : Nat → Int32} {to : Nat → Int32} {sn : Int32} {pl : Int32} {kd : Nat → Int32} {tg : Nat → Int32} {sa : Nat → Int32} {sb : Nat → Int32} {bn : Nat → Int32} {mt : Nat → Int32} {pa : Nat → Int32} {ob : Int32} {tb : Int32} {fo : Int32} {rv : Nat → Int64} {ro : Int32} {tk : Int32} {ov : Nat → Int32} {sh : Nat → Int32} {tu : Nat → Int32} {tf : Int32} {kn : Int32} {tl : Nat → Int64} {th : Nat → Int64} {tv : Nat → Int64}  (C0 : Cx p s m args meth c cX2_learn 2 none RX2 wsX2_learn A (dC, dI) (ty3 cI cJ cZ)) {RES : (Int32) × (Int32) × (Int64) × (Int64) × (Nat → Int64) × (Nat → Int64)}  : ∀ n : Nat, iX2_learn_L36 p l e s m args below meth c A dC dI q cI cJ cZ nr wd sg lw hg fr to sn pl kd tg sa sb bn mt pa ob tb fo rv ro tk ov sh tu tf kn tl th tv RES (mX2_learn_L36 nr sg lw hg fr to pl kd tg sa sb bn pa n) := by
  have C1 := C0
  obtain ⟨hx, hb, hr, hml, hown, hts, hlocks, hN, hK, hA⟩ := C1
  intro n
  induction n with
  | zero =>
    intro rk cb rlo rhi rl rg x1 H locs ls hP hD hS hl hres
    exact mi_0 hres
  | succ n ih =>
    intro rk cb rlo rhi rl rg x1 H locs ls hP hD hS hl hres
    rw [mX2_learn_L36] at hres
    refine lv_iload_n hx hb dX2_learn_36 rfl (lv_at hl 1 rfl) ?_
    refine lv_iconst (v := (2 : Int32)) hx hb dX2_learn_37 (by decide) ?_
    refine lv_icmp_ge (tgt := 80) hx hb dX2_learn_38 (by decide) (fun c_4 => ?_) (fun c_4 => ?_)
    · replace hres := mi_p c_4 hres
      refine lv_iconst (v := (0 : Int32)) hx hb dX2_learn_80 (by decide) ?_
      refine lv_istore_n (lv' := [(1, .int (0 : Int32)), (0, .ref (q 23))]) hx hb dX2_learn_81 rfl hl (by decide) rfl (fun ls hl => ?_)
      exact zX2_learn_L82 C0  FU rk cb rlo rhi rl rg (0 : Int32) _ _ ls hP hD hS (lv_sub hl [1, 0] rfl) hres
    · replace hres := mi_n c_4 hres
      refine lv_aload_n hx hb dX2_learn_41 rfl (lv_at hl 0 rfl) ?_
      refine lv_aload_n hx hb dX2_learn_42 rfl (lv_at hl 0 rfl) ?_
      refine va_get (D := (dC, dI)) (ci := 2) (v := .ref (q 6)) (C := RX2) (T := TX2) (N := 9) hx hb hts hwX2_learn_RX2 hown hK hP 23 rfl rfl 8 (by decide) (hts _ mwX2_learn_4) (fun _ h9 => h9) rfl dX2_learn_43 ?_
      refine va_get (D := (dC, dI)) (ci := 0) (v := .ref (q 7)) (C := RX0) (T := TX0) (N := 2) hx hb hts hwX2_learn_RX0 hown hK hP 6 rfl rfl 0 (by decide) (hts _ mwX2_learn_5) (fun _ h9 => h9) rfl dX2_learn_46 ?_
      refine lv_iload_n hx hb dX2_learn_49 rfl (lv_at hl 1 rfl) ?_
      obtain ⟨g_5, hres⟩ := mi_g hres
      refine va_iald (D := (dC, dI)) (cl := vwCl) hx hb hK hP 7 0 rfl rfl g_5 dX2_learn_50 ?_
      refine lv_i2l (v := ((fr (Int32.toNatClampNeg x1))).toInt64) hx hb dX2_learn_51 rfl ?_
      refine va_put (D := (dC, dI)) (ci := 2) (v := .long (((fr (Int32.toNatClampNeg x1))).toInt64)) (ty := .long) (C := RX2) (T := TX2) (N := 9) hx hb hts hwX2_learn_RX2 tyX2 tyX2_ok nmX2 hown hK hP hD hS 23 rfl rfl 4 (by decide) (hts _ mwX2_learn_6) (fun _ h9 => h9) rfl (by decide +kernel) rfl rfl (Nat.le_of_ble_eq_true rfl) dX2_learn_52 (fun H locs hP hD hS => ?_)
      have hP : va_P (dC, dI) vwCl (wC q cI cJ cZ nr wd sg lw hg fr to sn pl kd tg sa sb bn mt pa ob tb fo rv ro tk ov sh tu rk cb (((fr (Int32.toNatClampNeg x1))).toInt64) rhi rl rg tf kn tl th tv) H := hP
      have hD : va_D A (wC q cI cJ cZ nr wd sg lw hg fr to sn pl kd tg sa sb bn mt pa ob tb fo rv ro tk ov sh tu rk cb (((fr (Int32.toNatClampNeg x1))).toInt64) rhi rl rg tf kn tl th tv) := hD
      refine lv_aload_n hx hb dX2_learn_55 rfl (lv_at hl 0 rfl) ?_
      refine lv_aload_n hx hb dX2_learn_56 rfl (lv_at hl 0 rfl) ?_
      refine va_get (D := (dC, dI)) (ci := 2) (v := .ref (q 6)) (C := RX2) (T := TX2) (N := 9) hx hb hts hwX2_learn_RX2 hown hK hP 23 rfl rfl 8 (by decide) (hts _ mwX2_learn_4) (fun _ h9 => h9) rfl dX2_learn_57 ?_
      refine va_get (D := (dC, dI)) (ci := 0) (v := .ref (q 8)) (C := RX0) (T := TX0) (N := 2) hx hb hts hwX2_learn_RX0 hown hK hP 6 rfl rfl 1 (by decide) (hts _ mwX2_learn_7) (fun _ h9 => h9) rfl dX2_learn_60 ?_
      refine lv_iload_n hx hb dX2_learn_63 rfl (lv_at hl 1 rfl) ?_
      refine va_iald (D := (dC, dI)) (cl := vwCl) hx hb hK hP 8 0 rfl rfl g_5 dX2_learn_64 ?_
      refine lv_i2l (v := ((to (Int32.toNatClampNeg x1))).toInt64) hx hb dX2_learn_65 rfl ?_
      refine va_put (D := (dC, dI)) (ci := 2) (v := .long (((to (Int32.toNatClampNeg x1))).toInt64)) (ty := .long) (C := RX2) (T := TX2) (N := 9) hx hb hts hwX2_learn_RX2 tyX2 tyX2_ok nmX2 hown hK hP hD hS 23 rfl rfl 5 (by decide) (hts _ mwX2_learn_8) (fun _ h9 => h9) rfl (by decide +kernel) rfl rfl (Nat.le_of_ble_eq_true rfl) dX2_learn_66 (fun H locs hP hD hS => ?_)
      have hP : va_P (dC, dI) vwCl (wC q cI cJ cZ nr wd sg lw hg fr to sn pl kd tg sa sb bn mt pa ob tb fo rv ro tk ov sh tu rk cb (((fr (Int32.toNatClampNeg x1))).toInt64) (((to (Int32.toNatClampNeg x1))).toInt64) rl rg tf kn tl th tv) H := hP
      have hD : va_D A (wC q cI cJ cZ nr wd sg lw hg fr to sn pl kd tg sa sb bn mt pa ob tb fo rv ro tk ov sh tu rk cb (((fr (Int32.toNatClampNeg x1))).toInt64) (((to (Int32.toNatClampNeg x1))).toInt64) rl rg tf kn tl th tv) := hD
      refine lv_aload_n hx hb dX2_learn_69 rfl (lv_at hl 0 rfl) ?_
      refine lv_iload_n hx hb dX2_learn_70 rfl (lv_at hl 1 rfl) ?_
      obtain ⟨u6, hu6, hres⟩ := mi_b hres
      refine call_V C0 (run_V C0 (rest := []) (kX2_settle l dC dI q cI cJ cZ nr wd sg lw hg fr to sn pl kd tg sa sb bn mt pa ob tb fo rv ro tk ov sh tu rk cb (((fr (Int32.toNatClampNeg x1))).toInt64) (((to (Int32.toNatClampNeg x1))).toInt64) rl rg tf kn tl th tv  x1 u6 hu6 _) (cwV 1 hts gX2_learn_X2_settle rfl rfl rfl (by decide +kernel) ⟨by decide, by decide⟩) hP hD (ci := 2) (q0 := 23) rfl rfl rfl hl.1 rfl (Nat.le_of_ble_eq_true rfl) dX2_learn_71) hD hS (fun H locs hP hD hS => ?_)
      refine lv_iinc (v := x1 + (1 : Int32)) (lv' := [(1, .int (x1 + (1 : Int32))), (0, .ref (q 23))]) hx hb dX2_learn_74 hl (k := 1) rfl rfl (by decide) rfl (fun ls hl => ?_)
      refine lv_goto (tgt := 36) hx hb dX2_learn_77 (by decide) ?_
      exact ih rk cb (((fr (Int32.toNatClampNeg x1))).toInt64) (((to (Int32.toNatClampNeg x1))).toInt64) u6.1 u6.2 (x1 + (1 : Int32)) _ _ ls hP hD hS (lv_sub hl [1, 0] rfl) hres
set_option maxHeartbeats 4000000 in
set_option maxRecDepth 100000 in
theorem kX2_learn (l : Launch) (dC : Nat → ClassId) (dI : Nat → Nat → Nat) (q : Nat → Nat) (cI cJ cZ : ClassId) (nr : Int32) (wd : Nat → Int32) (sg : Nat → Int32) (lw : Nat → Int64) (hg : Nat → Int64) (fr : Nat → Int32) (to : Nat → Int32) (sn : Int32) (pl : Int32) (kd : Nat → Int32) (tg : Nat → Int32) (sa : Nat → Int32) (sb : Nat → Int32) (bn : Nat → Int32) (mt : Nat → Int32) (pa : Nat → Int32) (ob : Int32) (tb : Int32) (fo : Int32) (rv : Nat → Int64) (ro : Int32) (tk : Int32) (ov : Nat → Int32) (sh : Nat → Int32) (tu : Nat → Int32) (rk : Int32) (cb : Int32) (rlo : Int64) (rhi : Int64) (rl : Nat → Int64) (rg : Nat → Int64) (tf : Int32) (kn : Int32) (tl : Nat → Int64) (th : Nat → Int64) (tv : Nat → Int64)  (RES : (Int32) × (Int32) × (Int64) × (Int64) × (Nat → Int64) × (Nat → Int64)) (hres : mX2_learn nr sg lw hg fr to pl kd tg sa sb bn pa rk cb rlo rhi rl rg = some RES) : CtV l yX2_learn wsX2_learn rmX2_learn (dC, dI) (ty3 cI cJ cZ) (wC q cI cJ cZ nr wd sg lw hg fr to sn pl kd tg sa sb bn mt pa ob tb fo rv ro tk ov sh tu rk cb rlo rhi rl rg tf kn tl th tv) [.ref (q 23)] (wC q cI cJ cZ nr wd sg lw hg fr to sn pl kd tg sa sb bn mt pa ob tb fo rv ro tk ov sh tu RES.1 RES.2.1 RES.2.2.1 RES.2.2.2.1 RES.2.2.2.2.1 RES.2.2.2.2.2 tf kn tl th tv) := by
  intro sz
  refine ct_entry (cc := cX2_learn) (maxL := 2) (ret := none) (own := RX2) (by decide) rfl rfl (Nat.le_of_ble_eq_true rfl) (ll := [(0, .ref (q 23))]) rfl ?_
  intro p e s m args below meth c hsz C0 _ hP hD ls hl
  have C1 := C0
  obtain ⟨hx, hb, hr, hml, hown, hts, hlocks, hN, hK, hA⟩ := C1
  have hS : va_S (va_A (wC q cI cJ cZ nr wd sg lw hg fr to sn pl kd tg sa sb bn mt pa ob tb fo rv ro tk ov sh tu rk cb rlo rhi rl rg tf kn tl th tv) sz) s.heap s.heap [] := va_S.rf
  generalize va_A (wC q cI cJ cZ nr wd sg lw hg fr to sn pl kd tg sa sb bn mt pa ob tb fo rv ro tk ov sh tu rk cb rlo rhi rl rg tf kn tl th tv) sz = A at C0 hD hA hS ⊢
  show W p l e rmX2_learn s m args below meth c s.heap [] 0 0 (QV below args s A (dC, dI) (ty3 cI cJ cZ) (wC q cI cJ cZ nr wd sg lw hg fr to sn pl kd tg sa sb bn mt pa ob tb fo rv ro tk ov sh tu RES.1 RES.2.1 RES.2.2.1 RES.2.2.2.1 RES.2.2.2.2.1 RES.2.2.2.2.2 tf kn tl th tv)) (F0 m 0 ls [])
  unfold mX2_learn at hres
  refine lv_aload_n hx hb dX2_learn_0 rfl (lv_at hl 0 rfl) ?_
  refine va_get (D := (dC, dI)) (ci := 2) (v := .int rk) (C := RX2) (T := TX2) (N := 9) hx hb hts hwX2_learn_RX2 hown hK hP 23 rfl rfl 2 (by decide) (hts _ mwX2_learn_0) (fun _ h9 => h9) rfl dX2_learn_1 ?_
  refine lv_if_eq (tgt := 8) hx hb dX2_learn_4 (by decide) (fun c_1 => ?_) (fun c_1 => ?_)
  · replace hres := mi_p c_1 hres
    refine lv_aload_n hx hb dX2_learn_8 rfl (lv_at hl 0 rfl) ?_
    refine lv_iconst (v := (1 : Int32)) hx hb dX2_learn_9 (by decide) ?_
    refine va_put (D := (dC, dI)) (ci := 2) (v := .int (1 : Int32)) (ty := .boolean) (C := RX2) (T := TX2) (N := 9) hx hb hts hwX2_learn_RX2 tyX2 tyX2_ok nmX2 hown hK hP hD hS 23 rfl rfl 2 (by decide) (hts _ mwX2_learn_0) (fun _ h9 => h9) rfl (by decide +kernel) rfl rfl (Nat.le_of_ble_eq_true rfl) dX2_learn_10 (fun H locs hP hD hS => ?_)
    have hP : va_P (dC, dI) vwCl (wC q cI cJ cZ nr wd sg lw hg fr to sn pl kd tg sa sb bn mt pa ob tb fo rv ro tk ov sh tu (1 : Int32) cb rlo rhi rl rg tf kn tl th tv) H := hP
    have hD : va_D A (wC q cI cJ cZ nr wd sg lw hg fr to sn pl kd tg sa sb bn mt pa ob tb fo rv ro tk ov sh tu (1 : Int32) cb rlo rhi rl rg tf kn tl th tv) := hD
    refine lv_aload_n hx hb dX2_learn_13 rfl (lv_at hl 0 rfl) ?_
    refine lv_iconst (v := (0 : Int32)) hx hb dX2_learn_14 (by decide) ?_
    refine va_put (D := (dC, dI)) (ci := 2) (v := .int (0 : Int32)) (ty := .int) (C := RX2) (T := TX2) (N := 9) hx hb hts hwX2_learn_RX2 tyX2 tyX2_ok nmX2 hown hK hP hD hS 23 rfl rfl 3 (by decide) (hts _ mwX2_learn_1) (fun _ h9 => h9) rfl (by decide +kernel) rfl rfl (Nat.le_of_ble_eq_true rfl) dX2_learn_15 (fun H locs hP hD hS => ?_)
    have hP : va_P (dC, dI) vwCl (wC q cI cJ cZ nr wd sg lw hg fr to sn pl kd tg sa sb bn mt pa ob tb fo rv ro tk ov sh tu (1 : Int32) (0 : Int32) rlo rhi rl rg tf kn tl th tv) H := hP
    have hD : va_D A (wC q cI cJ cZ nr wd sg lw hg fr to sn pl kd tg sa sb bn mt pa ob tb fo rv ro tk ov sh tu (1 : Int32) (0 : Int32) rlo rhi rl rg tf kn tl th tv) := hD
    refine lv_aload_n hx hb dX2_learn_18 rfl (lv_at hl 0 rfl) ?_
    refine va_get (D := (dC, dI)) (ci := 2) (v := .ref (q 24)) (C := RX2) (T := TX2) (N := 9) hx hb hts hwX2_learn_RX2 hown hK hP 23 rfl rfl 0 (by decide) (hts _ mwX2_learn_2) (fun _ h9 => h9) rfl dX2_learn_19 ?_
    refine lv_lconst (v := (0 : Int64)) hx hb dX2_learn_22 (by decide) ?_
    refine call_V C0 (run_S C0 (rest := []) (kflL l (dC, dI) (ty3 cI cJ cZ) _ 24 (q 24) cJ 6 rl (0 : Int64) rfl rfl (by decide) _) (va_cwS 2 hts gX2_learn_J7_fill_d0a16 rfl rfl rfl (by decide +kernel) ⟨by decide, by decide⟩) hP hD rfl hl.1 rfl (Nat.le_of_ble_eq_true rfl) dX2_learn_23) hD hS (fun H locs hP hD hS => ?_)
    have hP : va_P (dC, dI) vwCl (wC q cI cJ cZ nr wd sg lw hg fr to sn pl kd tg sa sb bn mt pa ob tb fo rv ro tk ov sh tu (1 : Int32) (0 : Int32) rlo rhi (flL 6 (0 : Int64) rl) rg tf kn tl th tv) H := hP
    have hD : va_D A (wC q cI cJ cZ nr wd sg lw hg fr to sn pl kd tg sa sb bn mt pa ob tb fo rv ro tk ov sh tu (1 : Int32) (0 : Int32) rlo rhi (flL 6 (0 : Int64) rl) rg tf kn tl th tv) := hD
    refine lv_aload_n hx hb dX2_learn_26 rfl (lv_at hl 0 rfl) ?_
    refine va_get (D := (dC, dI)) (ci := 2) (v := .ref (q 25)) (C := RX2) (T := TX2) (N := 9) hx hb hts hwX2_learn_RX2 hown hK hP 23 rfl rfl 1 (by decide) (hts _ mwX2_learn_3) (fun _ h9 => h9) rfl dX2_learn_27 ?_
    refine lv_lconst (v := (0 : Int64)) hx hb dX2_learn_30 (by decide) ?_
    refine call_V C0 (run_S C0 (rest := []) (kflL l (dC, dI) (ty3 cI cJ cZ) _ 25 (q 25) cJ 6 rg (0 : Int64) rfl rfl (by decide) _) (va_cwS 2 hts gX2_learn_J7_fill_d0a16 rfl rfl rfl (by decide +kernel) ⟨by decide, by decide⟩) hP hD rfl hl.1 rfl (Nat.le_of_ble_eq_true rfl) dX2_learn_31) hD hS (fun H locs hP hD hS => ?_)
    have hP : va_P (dC, dI) vwCl (wC q cI cJ cZ nr wd sg lw hg fr to sn pl kd tg sa sb bn mt pa ob tb fo rv ro tk ov sh tu (1 : Int32) (0 : Int32) rlo rhi (flL 6 (0 : Int64) rl) (flL 6 (0 : Int64) rg) tf kn tl th tv) H := hP
    have hD : va_D A (wC q cI cJ cZ nr wd sg lw hg fr to sn pl kd tg sa sb bn mt pa ob tb fo rv ro tk ov sh tu (1 : Int32) (0 : Int32) rlo rhi (flL 6 (0 : Int64) rl) (flL 6 (0 : Int64) rg) tf kn tl th tv) := hD
    refine lv_iconst (v := (0 : Int32)) hx hb dX2_learn_34 (by decide) ?_
    refine lv_istore_n (lv' := [(1, .int (0 : Int32)), (0, .ref (q 23))]) hx hb dX2_learn_35 rfl hl (by decide) rfl (fun ls hl => ?_)
    exact zX2_learn_L36 C0  FU (1 : Int32) (0 : Int32) rlo rhi (flL 6 (0 : Int64) rl) (flL 6 (0 : Int64) rg) (0 : Int32) _ _ ls hP hD hS (lv_sub hl [1, 0] rfl) hres
  · replace hres := mi_n c_1 hres
    obtain rfl := Option.some.inj hres
    exact ret_V C0 hP hD hS dX2_learn_7
/-! ### SumsOver$Runner.answer(I)J -/
set_option maxRecDepth 20000 in
theorem hwX3_answer_RX3 : ∀ w ∈ u_ws RX3 TX3 6, w ∈ wsX3_answer := by decide +kernel
theorem mwX3_answer_0 : (.fieldLink RX3 19 "SumsOver$Runner" "steps" "LSumsOver$Steps;" : Cond) ∈ wsX3_answer := by decide +kernel
set_option maxRecDepth 20000 in
theorem hwX3_answer_RX4 : ∀ w ∈ u_ws RX4 TX4 9, w ∈ wsX3_answer := by decide +kernel
theorem mwX3_answer_1 : (.fieldLink RX3 72 "SumsOver$Steps" "kinds" "[I" : Cond) ∈ wsX3_answer := by decide +kernel
theorem mwX3_answer_2 : (.fieldLink RX3 9 "SumsOver$Runner" "values" "[J" : Cond) ∈ wsX3_answer := by decide +kernel
theorem mwX3_answer_3 : (.initialized RX7 : Cond) ∈ wsX3_answer := by decide +kernel
theorem mwX3_answer_4 : (.static yX7_made : Cond) ∈ wsX3_answer := by decide +kernel
theorem mwX3_answer_5 : (.fieldLink RX3 15 "SumsOver$Runner" "names" "LSumsOver$Names;" : Cond) ∈ wsX3_answer := by decide +kernel
theorem mwX3_answer_6 : (.fieldLink RX3 86 "SumsOver$Steps" "as" "[I" : Cond) ∈ wsX3_answer := by decide +kernel
theorem mwX3_answer_7 : (.fieldLink RX3 89 "SumsOver$Steps" "bs" "[I" : Cond) ∈ wsX3_answer := by decide +kernel
theorem mwX3_answer_8 : (.fieldLink RX3 27 "SumsOver$Runner" "turnedBits" "I" : Cond) ∈ wsX3_answer := by decide +kernel
def rmX3_answer : Room := { frames := 2, cells := 0, slots := 0, locals := 50 }
set_option maxHeartbeats 4000000 in
set_option maxRecDepth 100000 in
theorem kX3_answer (l : Launch) (dC : Nat → ClassId) (dI : Nat → Nat → Nat) (q : Nat → Nat) (cI cJ cZ : ClassId) (nr : Int32) (wd : Nat → Int32) (sg : Nat → Int32) (lw : Nat → Int64) (hg : Nat → Int64) (fr : Nat → Int32) (to : Nat → Int32) (sn : Int32) (pl : Int32) (kd : Nat → Int32) (tg : Nat → Int32) (sa : Nat → Int32) (sb : Nat → Int32) (bn : Nat → Int32) (mt : Nat → Int32) (pa : Nat → Int32) (ob : Int32) (tb : Int32) (fo : Int32) (rv : Nat → Int64) (ro : Int32) (tk : Int32) (ov : Nat → Int32) (sh : Nat → Int32) (tu : Nat → Int32) (rk : Int32) (cb : Int32) (rlo : Int64) (rhi : Int64) (rl : Nat → Int64) (rg : Nat → Int64) (tf : Int32) (kn : Int32) (tl : Nat → Int64) (th : Nat → Int64) (tv : Nat → Int64) (x1 : Int32) (RES : Int64 × (Int32)) (hres : mX3_answer wd sg kd sa sb bn tb rv x1 = some RES) : CtL l yX3_answer wsX3_answer rmX3_answer (dC, dI) (ty3 cI cJ cZ) (wC q cI cJ cZ nr wd sg lw hg fr to sn pl kd tg sa sb bn mt pa ob tb fo rv ro tk ov sh tu rk cb rlo rhi rl rg tf kn tl th tv) [.ref (q 17), .int x1] RES.1 (wC q cI cJ cZ nr wd sg lw hg fr to sn pl kd tg sa sb bn mt pa ob RES.2 fo rv ro tk ov sh tu rk cb rlo rhi rl rg tf kn tl th tv) := by
  intro sz
  refine ct_entry (cc := cX3_answer) (maxL := 11) (ret := some .long) (own := RX3) (by decide) rfl rfl (Nat.le_of_ble_eq_true rfl) (ll := [(0, .ref (q 17)), (1, .int x1)]) rfl ?_
  intro p e s m args below meth c hsz C0 _ hP hD ls hl
  have C1 := C0
  obtain ⟨hx, hb, hr, hml, hown, hts, hlocks, hN, hK, hA⟩ := C1
  have hS : va_S (va_A (wC q cI cJ cZ nr wd sg lw hg fr to sn pl kd tg sa sb bn mt pa ob tb fo rv ro tk ov sh tu rk cb rlo rhi rl rg tf kn tl th tv) sz) s.heap s.heap [] := va_S.rf
  generalize va_A (wC q cI cJ cZ nr wd sg lw hg fr to sn pl kd tg sa sb bn mt pa ob tb fo rv ro tk ov sh tu rk cb rlo rhi rl rg tf kn tl th tv) sz = A at C0 hD hA hS ⊢
  show W p l e rmX3_answer s m args below meth c s.heap [] 0 0 (QL below args s A (dC, dI) (ty3 cI cJ cZ) RES.1 (wC q cI cJ cZ nr wd sg lw hg fr to sn pl kd tg sa sb bn mt pa ob RES.2 fo rv ro tk ov sh tu rk cb rlo rhi rl rg tf kn tl th tv)) (F0 m 0 ls [])
  unfold mX3_answer at hres
  refine lv_aload_n hx hb dX3_answer_0 rfl (lv_at hl 0 rfl) ?_
  refine va_get (D := (dC, dI)) (ci := 3) (v := .ref (q 9)) (C := RX3) (T := TX3) (N := 6) hx hb hts hwX3_answer_RX3 hown hK hP 17 rfl rfl 1 (by decide) (hts _ mwX3_answer_0) (fun _ h9 => h9) rfl dX3_answer_1 ?_
  refine va_get (D := (dC, dI)) (ci := 4) (v := .ref (q 10)) (C := RX4) (T := TX4) (N := 9) hx hb hts hwX3_answer_RX4 hown hK hP 9 rfl rfl 0 (by decide) (hts _ mwX3_answer_1) (fun _ h9 => h9) rfl dX3_answer_4 ?_
  refine lv_iload_n hx hb dX3_answer_7 rfl (lv_at hl 1 rfl) ?_
  obtain ⟨g_1, hres⟩ := mi_g hres
  refine va_iald (D := (dC, dI)) (cl := vwCl) hx hb hK hP 10 0 rfl rfl g_1 dX3_answer_8 ?_
  refine lv_istore_n (lv' := [(2, .int (kd (Int32.toNatClampNeg x1))), (0, .ref (q 17)), (1, .int x1)]) hx hb dX3_answer_9 rfl hl (by decide) rfl (fun ls hl => ?_)
  refine lv_aload_n hx hb dX3_answer_10 rfl (lv_at hl 1 rfl) ?_
  refine va_get (D := (dC, dI)) (ci := 3) (v := .ref (q 9)) (C := RX3) (T := TX3) (N := 6) hx hb hts hwX3_answer_RX3 hown hK hP 17 rfl rfl 1 (by decide) (hts _ mwX3_answer_0) (fun _ h9 => h9) rfl dX3_answer_11 ?_
  refine lv_iload_n hx hb dX3_answer_14 rfl (lv_at hl 2 rfl) ?_
  refine lv_aload_n hx hb dX3_answer_15 rfl (lv_at hl 1 rfl) ?_
  refine va_get (D := (dC, dI)) (ci := 3) (v := .ref (q 18)) (C := RX3) (T := TX3) (N := 6) hx hb hts hwX3_answer_RX3 hown hK hP 17 rfl rfl 2 (by decide) (hts _ mwX3_answer_2) (fun _ h9 => h9) rfl dX3_answer_16 ?_
  obtain ⟨u2, hu2, hres⟩ := mi_b hres
  refine call_L C0 (run_V C0 (rest := []) (kX4_valueOfA l dC dI q cI cJ cZ nr wd sg lw hg fr to sn pl kd tg sa sb bn mt pa ob tb fo rv ro tk ov sh tu rk cb rlo rhi rl rg tf kn tl th tv 18 (q 18) rv rfl x1 u2 hu2 _) (cwV 2 hts gX3_answer_X4_valueOfA rfl rfl rfl (by decide +kernel) ⟨by decide, by decide⟩) hP hD (ci := 4) (q0 := 9) rfl rfl rfl hl.1 rfl (Nat.le_of_ble_eq_true rfl) dX3_answer_19) hD hS (fun H locs hP hD hS => ?_)
  refine lv_lstore_n (lv' := [(3, .long u2), (2, .int (kd (Int32.toNatClampNeg x1))), (0, .ref (q 17)), (1, .int x1)]) hx hb dX3_answer_22 rfl hl (by decide) rfl (fun ls hl => ?_)
  refine lv_aload_n hx hb dX3_answer_23 rfl (lv_at hl 2 rfl) ?_
  refine va_get (D := (dC, dI)) (ci := 3) (v := .ref (q 9)) (C := RX3) (T := TX3) (N := 6) hx hb hts hwX3_answer_RX3 hown hK hP 17 rfl rfl 1 (by decide) (hts _ mwX3_answer_0) (fun _ h9 => h9) rfl dX3_answer_24 ?_
  refine lv_iload_n hx hb dX3_answer_27 rfl (lv_at hl 3 rfl) ?_
  refine lv_aload_n hx hb dX3_answer_28 rfl (lv_at hl 2 rfl) ?_
  refine va_get (D := (dC, dI)) (ci := 3) (v := .ref (q 18)) (C := RX3) (T := TX3) (N := 6) hx hb hts hwX3_answer_RX3 hown hK hP 17 rfl rfl 2 (by decide) (hts _ mwX3_answer_2) (fun _ h9 => h9) rfl dX3_answer_29 ?_
  obtain ⟨u3, hu3, hres⟩ := mi_b hres
  refine call_L C0 (run_V C0 (rest := []) (kX4_valueOfB l dC dI q cI cJ cZ nr wd sg lw hg fr to sn pl kd tg sa sb bn mt pa ob tb fo rv ro tk ov sh tu rk cb rlo rhi rl rg tf kn tl th tv 18 (q 18) rv rfl x1 u3 hu3 _) (cwV 2 hts gX3_answer_X4_valueOfB rfl rfl rfl (by decide +kernel) ⟨by decide, by decide⟩) hP hD (ci := 4) (q0 := 9) rfl rfl rfl hl.1 rfl (Nat.le_of_ble_eq_true rfl) dX3_answer_32) hD hS (fun H locs hP hD hS => ?_)
  refine lv_lstore (lv' := [(5, .long u3), (3, .long u2), (2, .int (kd (Int32.toNatClampNeg x1))), (0, .ref (q 17)), (1, .int x1)]) hx hb dX3_answer_35 hl (by decide) rfl (fun ls hl => ?_)
  refine lv_iload_n hx hb dX3_answer_37 rfl (lv_at hl 2 rfl) ?_
  refine lv_lload_n hx hb dX3_answer_38 rfl (lv_at hl 1 rfl) ?_
  refine lv_lload hx hb dX3_answer_39 (lv_at hl 0 rfl) ?_
  obtain ⟨u4, hu4, hres⟩ := mi_b hres
  refine call_L C0 (run_SN C0 (rest := []) (kX7_made l (dC, dI) (ty3 cI cJ cZ) (wC q cI cJ cZ nr wd sg lw hg fr to sn pl kd tg sa sb bn mt pa ob tb fo rv ro tk ov sh tu rk cb rlo rhi rl rg tf kn tl th tv) (kd (Int32.toNatClampNeg x1)) u2 u3 u4 hu4 _) ⟨va_cnB (host := RX7) 3 hts gX3_answer_X7_made_n82 rfl rfl rfl (hN (.methodLinkNest RX3 82 yX7_made RX7) (by decide +kernel)) (hts _ mwX3_answer_3) (by decide +kernel) ⟨by decide, by decide⟩, (hts _ mwX3_answer_4), trivial⟩ hP hD rfl hl.1 rfl (Nat.le_of_ble_eq_true rfl) dX3_answer_41) hD hS (fun H locs hP hD hS => ?_)
  refine lv_lstore (lv' := [(7, .long u4), (5, .long u3), (3, .long u2), (2, .int (kd (Int32.toNatClampNeg x1))), (0, .ref (q 17)), (1, .int x1)]) hx hb dX3_answer_44 hl (by decide) rfl (fun ls hl => ?_)
  refine lv_iload_n hx hb dX3_answer_46 rfl (lv_at hl 3 rfl) ?_
  refine lv_bipush (v := (7 : Int32)) hx hb dX3_answer_47 (by decide) ?_
  refine lv_icmp_ne (tgt := 80) hx hb dX3_answer_49 (by decide) (fun c_5 => ?_) (fun c_5 => ?_)
  · replace hres := mi_n c_5 hres
    refine lv_lload hx hb dX3_answer_80 (lv_at hl 0 rfl) ?_
    obtain rfl := Option.some.inj hres
    exact ret_L (r := u4) C0 hP hD hS dX3_answer_82
  · replace hres := mi_p c_5 hres
    refine lv_aload_n hx hb dX3_answer_52 rfl (lv_at hl 4 rfl) ?_
    refine va_get (D := (dC, dI)) (ci := 3) (v := .ref (q 1)) (C := RX3) (T := TX3) (N := 6) hx hb hts hwX3_answer_RX3 hown hK hP 17 rfl rfl 0 (by decide) (hts _ mwX3_answer_5) (fun _ h9 => h9) rfl dX3_answer_53 ?_
    refine lv_aload_n hx hb dX3_answer_56 rfl (lv_at hl 4 rfl) ?_
    refine va_get (D := (dC, dI)) (ci := 3) (v := .ref (q 9)) (C := RX3) (T := TX3) (N := 6) hx hb hts hwX3_answer_RX3 hown hK hP 17 rfl rfl 1 (by decide) (hts _ mwX3_answer_0) (fun _ h9 => h9) rfl dX3_answer_57 ?_
    refine va_get (D := (dC, dI)) (ci := 4) (v := .ref (q 12)) (C := RX4) (T := TX4) (N := 9) hx hb hts hwX3_answer_RX4 hown hK hP 9 rfl rfl 2 (by decide) (hts _ mwX3_answer_6) (fun _ h9 => h9) rfl dX3_answer_60 ?_
    refine lv_iload_n hx hb dX3_answer_63 rfl (lv_at hl 5 rfl) ?_
    refine va_iald (D := (dC, dI)) (cl := vwCl) hx hb hK hP 12 0 rfl rfl g_1 dX3_answer_64 ?_
    refine lv_aload_n hx hb dX3_answer_65 rfl (lv_at hl 4 rfl) ?_
    refine va_get (D := (dC, dI)) (ci := 3) (v := .ref (q 9)) (C := RX3) (T := TX3) (N := 6) hx hb hts hwX3_answer_RX3 hown hK hP 17 rfl rfl 1 (by decide) (hts _ mwX3_answer_0) (fun _ h9 => h9) rfl dX3_answer_66 ?_
    refine va_get (D := (dC, dI)) (ci := 4) (v := .ref (q 13)) (C := RX4) (T := TX4) (N := 9) hx hb hts hwX3_answer_RX4 hown hK hP 9 rfl rfl 3 (by decide) (hts _ mwX3_answer_7) (fun _ h9 => h9) rfl dX3_answer_69 ?_
    refine lv_iload_n hx hb dX3_answer_72 rfl (lv_at hl 5 rfl) ?_
    refine va_iald (D := (dC, dI)) (cl := vwCl) hx hb hK hP 13 0 rfl rfl g_1 dX3_answer_73 ?_
    obtain ⟨u6, hu6, hres⟩ := mi_b hres
    refine call_I C0 (run_V C0 (rest := []) (kX1_signedAlike l dC dI q cI cJ cZ nr wd sg lw hg fr to sn pl kd tg sa sb bn mt pa ob tb fo rv ro tk ov sh tu rk cb rlo rhi rl rg tf kn tl th tv  (sa (Int32.toNatClampNeg x1)) (sb (Int32.toNatClampNeg x1)) u6 hu6 _) (cwV 2 hts gX3_answer_X1_signedAlike rfl rfl rfl (by decide +kernel) ⟨by decide, by decide⟩) hP hD (ci := 1) (q0 := 1) rfl rfl rfl hl.1 rfl (Nat.le_of_ble_eq_true rfl) dX3_answer_74) hD hS (fun H locs hP hD hS => ?_)
    refine lv_if_eq (tgt := 83) hx hb dX3_answer_77 (by decide) (fun c_7 => ?_) (fun c_7 => ?_)
    · replace hres := mi_p c_7 hres
      refine lv_aload_n hx hb dX3_answer_83 rfl (lv_at hl 4 rfl) ?_
      refine va_get (D := (dC, dI)) (ci := 3) (v := .ref (q 1)) (C := RX3) (T := TX3) (N := 6) hx hb hts hwX3_answer_RX3 hown hK hP 17 rfl rfl 0 (by decide) (hts _ mwX3_answer_5) (fun _ h9 => h9) rfl dX3_answer_84 ?_
      refine lv_aload_n hx hb dX3_answer_87 rfl (lv_at hl 4 rfl) ?_
      refine va_get (D := (dC, dI)) (ci := 3) (v := .ref (q 9)) (C := RX3) (T := TX3) (N := 6) hx hb hts hwX3_answer_RX3 hown hK hP 17 rfl rfl 1 (by decide) (hts _ mwX3_answer_0) (fun _ h9 => h9) rfl dX3_answer_88 ?_
      refine va_get (D := (dC, dI)) (ci := 4) (v := .ref (q 12)) (C := RX4) (T := TX4) (N := 9) hx hb hts hwX3_answer_RX4 hown hK hP 9 rfl rfl 2 (by decide) (hts _ mwX3_answer_6) (fun _ h9 => h9) rfl dX3_answer_91 ?_
      refine lv_iload_n hx hb dX3_answer_94 rfl (lv_at hl 5 rfl) ?_
      refine va_iald (D := (dC, dI)) (cl := vwCl) hx hb hK hP 12 0 rfl rfl g_1 dX3_answer_95 ?_
      refine lv_aload_n hx hb dX3_answer_96 rfl (lv_at hl 4 rfl) ?_
      refine va_get (D := (dC, dI)) (ci := 3) (v := .ref (q 9)) (C := RX3) (T := TX3) (N := 6) hx hb hts hwX3_answer_RX3 hown hK hP 17 rfl rfl 1 (by decide) (hts _ mwX3_answer_0) (fun _ h9 => h9) rfl dX3_answer_97 ?_
      refine va_get (D := (dC, dI)) (ci := 4) (v := .ref (q 13)) (C := RX4) (T := TX4) (N := 9) hx hb hts hwX3_answer_RX4 hown hK hP 9 rfl rfl 3 (by decide) (hts _ mwX3_answer_7) (fun _ h9 => h9) rfl dX3_answer_100 ?_
      refine lv_iload_n hx hb dX3_answer_103 rfl (lv_at hl 5 rfl) ?_
      refine va_iald (D := (dC, dI)) (cl := vwCl) hx hb hK hP 13 0 rfl rfl g_1 dX3_answer_104 ?_
      refine lv_lload_n hx hb dX3_answer_105 rfl (lv_at hl 2 rfl) ?_
      refine lv_lload hx hb dX3_answer_106 (lv_at hl 1 rfl) ?_
      obtain ⟨u8, hu8, hres⟩ := mi_b hres
      refine call_L C0 (run_V C0 (rest := []) (kX1_belowByRests l dC dI q cI cJ cZ nr wd sg lw hg fr to sn pl kd tg sa sb bn mt pa ob tb fo rv ro tk ov sh tu rk cb rlo rhi rl rg tf kn tl th tv  (sa (Int32.toNatClampNeg x1)) (sb (Int32.toNatClampNeg x1)) u2 u3 u8 hu8 _) (cwV 4 hts gX3_answer_X1_belowByRests rfl rfl rfl (by decide +kernel) ⟨by decide, by decide⟩) hP hD (ci := 1) (q0 := 1) rfl rfl rfl hl.1 rfl (Nat.le_of_ble_eq_true rfl) dX3_answer_108) hD hS (fun H locs hP hD hS => ?_)
      refine lv_lstore (lv' := [(9, .long u8), (7, .long u4), (5, .long u3), (3, .long u2), (2, .int (kd (Int32.toNatClampNeg x1))), (0, .ref (q 17)), (1, .int x1)]) hx hb dX3_answer_111 hl (by decide) rfl (fun ls hl => ?_)
      refine lv_lload hx hb dX3_answer_113 (lv_at hl 0 rfl) ?_
      refine lv_lload hx hb dX3_answer_115 (lv_at hl 1 rfl) ?_
      refine W.lcmp hx hb dX3_answer_117 ?_
      refine lv_if_eq (tgt := 133) hx hb dX3_answer_118 (by decide) (fun c_9 => ?_) (fun c_9 => ?_)
      · rw [lg_cmp_eq] at c_9
        replace hres := mi_p c_9 hres
        refine lv_lload hx hb dX3_answer_133 (lv_at hl 0 rfl) ?_
        obtain rfl := Option.some.inj hres
        exact ret_L (r := u8) C0 hP hD hS dX3_answer_135
      · rw [lg_cmp_eq] at c_9
        replace hres := mi_n c_9 hres
        refine lv_aload_n hx hb dX3_answer_121 rfl (lv_at hl 5 rfl) ?_
        refine lv_dup hx hb dX3_answer_122 rfl ?_
        refine va_get (D := (dC, dI)) (ci := 3) (v := .int tb) (C := RX3) (T := TX3) (N := 6) hx hb hts hwX3_answer_RX3 hown hK hP 17 rfl rfl 4 (by decide) (hts _ mwX3_answer_8) (fun _ h9 => h9) rfl dX3_answer_123 ?_
        refine lv_iconst (v := (1 : Int32)) hx hb dX3_answer_126 (by decide) ?_
        refine lv_iload_n hx hb dX3_answer_127 rfl (lv_at hl 6 rfl) ?_
        refine lv_ishl hx hb dX3_answer_128 ?_
        refine lv_ior hx hb dX3_answer_129 ?_
        refine va_put (D := (dC, dI)) (ci := 3) (v := .int (tb ||| ((1 : Int32) <<< (x1 &&& 31)))) (ty := .int) (C := RX3) (T := TX3) (N := 6) hx hb hts hwX3_answer_RX3 tyX3 tyX3_ok nmX3 hown hK hP hD hS 17 rfl rfl 4 (by decide) (hts _ mwX3_answer_8) (fun _ h9 => h9) rfl (by decide +kernel) rfl rfl (Nat.le_of_ble_eq_true rfl) dX3_answer_130 (fun H locs hP hD hS => ?_)
        have hP : va_P (dC, dI) vwCl (wC q cI cJ cZ nr wd sg lw hg fr to sn pl kd tg sa sb bn mt pa ob (tb ||| ((1 : Int32) <<< (x1 &&& 31))) fo rv ro tk ov sh tu rk cb rlo rhi rl rg tf kn tl th tv) H := hP
        have hD : va_D A (wC q cI cJ cZ nr wd sg lw hg fr to sn pl kd tg sa sb bn mt pa ob (tb ||| ((1 : Int32) <<< (x1 &&& 31))) fo rv ro tk ov sh tu rk cb rlo rhi rl rg tf kn tl th tv) := hD
        refine lv_lload hx hb dX3_answer_133 (lv_at hl 0 rfl) ?_
        obtain rfl := Option.some.inj hres
        exact ret_L (r := u8) C0 hP hD hS dX3_answer_135
    · replace hres := mi_n c_7 hres
      refine lv_lload hx hb dX3_answer_80 (lv_at hl 0 rfl) ?_
      obtain rfl := Option.some.inj hres
      exact ret_L (r := u4) C0 hP hD hS dX3_answer_82
/-! ### SumsOver$Runner.noteOver(I)V -/
set_option maxRecDepth 20000 in
theorem hwX3_noteOver_RX3 : ∀ w ∈ u_ws RX3 TX3 6, w ∈ wsX3_noteOver := by decide +kernel
theorem mwX3_noteOver_0 : (.fieldLink RX3 23 "SumsOver$Runner" "overBits" "I" : Cond) ∈ wsX3_noteOver := by decide +kernel
theorem mwX3_noteOver_1 : (.fieldLink RX3 30 "SumsOver$Runner" "firstOver" "I" : Cond) ∈ wsX3_noteOver := by decide +kernel
def rmX3_noteOver : Room := { frames := 0, cells := 0, slots := 0, locals := 0 }
set_option maxHeartbeats 4000000 in
set_option maxRecDepth 100000 in
theorem kX3_noteOver (l : Launch) (dC : Nat → ClassId) (dI : Nat → Nat → Nat) (q : Nat → Nat) (cI cJ cZ : ClassId) (nr : Int32) (wd : Nat → Int32) (sg : Nat → Int32) (lw : Nat → Int64) (hg : Nat → Int64) (fr : Nat → Int32) (to : Nat → Int32) (sn : Int32) (pl : Int32) (kd : Nat → Int32) (tg : Nat → Int32) (sa : Nat → Int32) (sb : Nat → Int32) (bn : Nat → Int32) (mt : Nat → Int32) (pa : Nat → Int32) (ob : Int32) (tb : Int32) (fo : Int32) (rv : Nat → Int64) (ro : Int32) (tk : Int32) (ov : Nat → Int32) (sh : Nat → Int32) (tu : Nat → Int32) (rk : Int32) (cb : Int32) (rlo : Int64) (rhi : Int64) (rl : Nat → Int64) (rg : Nat → Int64) (tf : Int32) (kn : Int32) (tl : Nat → Int64) (th : Nat → Int64) (tv : Nat → Int64) (x1 : Int32) (RES : (Int32) × (Int32)) (hres : mX3_noteOver ob fo x1 = some RES) : CtV l yX3_noteOver wsX3_noteOver rmX3_noteOver (dC, dI) (ty3 cI cJ cZ) (wC q cI cJ cZ nr wd sg lw hg fr to sn pl kd tg sa sb bn mt pa ob tb fo rv ro tk ov sh tu rk cb rlo rhi rl rg tf kn tl th tv) [.ref (q 17), .int x1] (wC q cI cJ cZ nr wd sg lw hg fr to sn pl kd tg sa sb bn mt pa RES.1 tb RES.2 rv ro tk ov sh tu rk cb rlo rhi rl rg tf kn tl th tv) := by
  intro sz
  refine ct_entry (cc := cX3_noteOver) (maxL := 2) (ret := none) (own := RX3) (by decide) rfl rfl (Nat.le_of_ble_eq_true rfl) (ll := [(0, .ref (q 17)), (1, .int x1)]) rfl ?_
  intro p e s m args below meth c hsz C0 _ hP hD ls hl
  have C1 := C0
  obtain ⟨hx, hb, hr, hml, hown, hts, hlocks, hN, hK, hA⟩ := C1
  have hS : va_S (va_A (wC q cI cJ cZ nr wd sg lw hg fr to sn pl kd tg sa sb bn mt pa ob tb fo rv ro tk ov sh tu rk cb rlo rhi rl rg tf kn tl th tv) sz) s.heap s.heap [] := va_S.rf
  generalize va_A (wC q cI cJ cZ nr wd sg lw hg fr to sn pl kd tg sa sb bn mt pa ob tb fo rv ro tk ov sh tu rk cb rlo rhi rl rg tf kn tl th tv) sz = A at C0 hD hA hS ⊢
  show W p l e rmX3_noteOver s m args below meth c s.heap [] 0 0 (QV below args s A (dC, dI) (ty3 cI cJ cZ) (wC q cI cJ cZ nr wd sg lw hg fr to sn pl kd tg sa sb bn mt pa RES.1 tb RES.2 rv ro tk ov sh tu rk cb rlo rhi rl rg tf kn tl th tv)) (F0 m 0 ls [])
  unfold mX3_noteOver at hres
  refine lv_aload_n hx hb dX3_noteOver_0 rfl (lv_at hl 0 rfl) ?_
  refine va_get (D := (dC, dI)) (ci := 3) (v := .int ob) (C := RX3) (T := TX3) (N := 6) hx hb hts hwX3_noteOver_RX3 hown hK hP 17 rfl rfl 3 (by decide) (hts _ mwX3_noteOver_0) (fun _ h9 => h9) rfl dX3_noteOver_1 ?_
  refine lv_if_ne (tgt := 12) hx hb dX3_noteOver_4 (by decide) (fun c_1 => ?_) (fun c_1 => ?_)
  · replace hres := mi_n c_1 hres
    refine lv_aload_n hx hb dX3_noteOver_12 rfl (lv_at hl 0 rfl) ?_
    refine lv_dup hx hb dX3_noteOver_13 rfl ?_
    refine va_get (D := (dC, dI)) (ci := 3) (v := .int ob) (C := RX3) (T := TX3) (N := 6) hx hb hts hwX3_noteOver_RX3 hown hK hP 17 rfl rfl 3 (by decide) (hts _ mwX3_noteOver_0) (fun _ h9 => h9) rfl dX3_noteOver_14 ?_
    refine lv_iconst (v := (1 : Int32)) hx hb dX3_noteOver_17 (by decide) ?_
    refine lv_iload_n hx hb dX3_noteOver_18 rfl (lv_at hl 1 rfl) ?_
    refine lv_ishl hx hb dX3_noteOver_19 ?_
    refine lv_ior hx hb dX3_noteOver_20 ?_
    refine va_put (D := (dC, dI)) (ci := 3) (v := .int (ob ||| ((1 : Int32) <<< (x1 &&& 31)))) (ty := .int) (C := RX3) (T := TX3) (N := 6) hx hb hts hwX3_noteOver_RX3 tyX3 tyX3_ok nmX3 hown hK hP hD hS 17 rfl rfl 3 (by decide) (hts _ mwX3_noteOver_0) (fun _ h9 => h9) rfl (by decide +kernel) rfl rfl (Nat.le_of_ble_eq_true rfl) dX3_noteOver_21 (fun H locs hP hD hS => ?_)
    have hP : va_P (dC, dI) vwCl (wC q cI cJ cZ nr wd sg lw hg fr to sn pl kd tg sa sb bn mt pa (ob ||| ((1 : Int32) <<< (x1 &&& 31))) tb fo rv ro tk ov sh tu rk cb rlo rhi rl rg tf kn tl th tv) H := hP
    have hD : va_D A (wC q cI cJ cZ nr wd sg lw hg fr to sn pl kd tg sa sb bn mt pa (ob ||| ((1 : Int32) <<< (x1 &&& 31))) tb fo rv ro tk ov sh tu rk cb rlo rhi rl rg tf kn tl th tv) := hD
    obtain rfl := Option.some.inj hres
    exact ret_V C0 hP hD hS dX3_noteOver_24
  · replace hres := mi_p c_1 hres
    refine lv_aload_n hx hb dX3_noteOver_7 rfl (lv_at hl 0 rfl) ?_
    refine lv_iload_n hx hb dX3_noteOver_8 rfl (lv_at hl 1 rfl) ?_
    refine va_put (D := (dC, dI)) (ci := 3) (v := .int x1) (ty := .int) (C := RX3) (T := TX3) (N := 6) hx hb hts hwX3_noteOver_RX3 tyX3 tyX3_ok nmX3 hown hK hP hD hS 17 rfl rfl 5 (by decide) (hts _ mwX3_noteOver_1) (fun _ h9 => h9) rfl (by decide +kernel) rfl rfl (Nat.le_of_ble_eq_true rfl) dX3_noteOver_9 (fun H locs hP hD hS => ?_)
    have hP : va_P (dC, dI) vwCl (wC q cI cJ cZ nr wd sg lw hg fr to sn pl kd tg sa sb bn mt pa ob tb x1 rv ro tk ov sh tu rk cb rlo rhi rl rg tf kn tl th tv) H := hP
    have hD : va_D A (wC q cI cJ cZ nr wd sg lw hg fr to sn pl kd tg sa sb bn mt pa ob tb x1 rv ro tk ov sh tu rk cb rlo rhi rl rg tf kn tl th tv) := hD
    refine lv_aload_n hx hb dX3_noteOver_12 rfl (lv_at hl 0 rfl) ?_
    refine lv_dup hx hb dX3_noteOver_13 rfl ?_
    refine va_get (D := (dC, dI)) (ci := 3) (v := .int ob) (C := RX3) (T := TX3) (N := 6) hx hb hts hwX3_noteOver_RX3 hown hK hP 17 rfl rfl 3 (by decide) (hts _ mwX3_noteOver_0) (fun _ h9 => h9) rfl dX3_noteOver_14 ?_
    refine lv_iconst (v := (1 : Int32)) hx hb dX3_noteOver_17 (by decide) ?_
    refine lv_iload_n hx hb dX3_noteOver_18 rfl (lv_at hl 1 rfl) ?_
    refine lv_ishl hx hb dX3_noteOver_19 ?_
    refine lv_ior hx hb dX3_noteOver_20 ?_
    refine va_put (D := (dC, dI)) (ci := 3) (v := .int (ob ||| ((1 : Int32) <<< (x1 &&& 31)))) (ty := .int) (C := RX3) (T := TX3) (N := 6) hx hb hts hwX3_noteOver_RX3 tyX3 tyX3_ok nmX3 hown hK hP hD hS 17 rfl rfl 3 (by decide) (hts _ mwX3_noteOver_0) (fun _ h9 => h9) rfl (by decide +kernel) rfl rfl (Nat.le_of_ble_eq_true rfl) dX3_noteOver_21 (fun H locs hP hD hS => ?_)
    have hP : va_P (dC, dI) vwCl (wC q cI cJ cZ nr wd sg lw hg fr to sn pl kd tg sa sb bn mt pa (ob ||| ((1 : Int32) <<< (x1 &&& 31))) tb x1 rv ro tk ov sh tu rk cb rlo rhi rl rg tf kn tl th tv) H := hP
    have hD : va_D A (wC q cI cJ cZ nr wd sg lw hg fr to sn pl kd tg sa sb bn mt pa (ob ||| ((1 : Int32) <<< (x1 &&& 31))) tb x1 rv ro tk ov sh tu rk cb rlo rhi rl rg tf kn tl th tv) := hD
    obtain rfl := Option.some.inj hres
    exact ret_V C0 hP hD hS dX3_noteOver_24
