/-! ### SumsOver$Runner.perform(I)V -/
set_option maxRecDepth 20000 in
theorem hwX3_perform_RX3 : ∀ w ∈ u_ws RX3 TX3 6, w ∈ wsX3_perform := by decide +kernel
theorem mwX3_perform_0 : (.fieldLink RX3 19 "SumsOver$Runner" "steps" "LSumsOver$Steps;" : Cond) ∈ wsX3_perform := by decide +kernel
set_option maxRecDepth 20000 in
theorem hwX3_perform_RX4 : ∀ w ∈ u_ws RX4 TX4 9, w ∈ wsX3_perform := by decide +kernel
theorem mwX3_perform_1 : (.fieldLink RX3 58 "SumsOver$Steps" "targets" "[I" : Cond) ∈ wsX3_perform := by decide +kernel
theorem mwX3_perform_2 : (.fieldLink RX3 15 "SumsOver$Runner" "names" "LSumsOver$Names;" : Cond) ∈ wsX3_perform := by decide +kernel
theorem mwX3_perform_3 : (.fieldLink RX3 9 "SumsOver$Runner" "values" "[J" : Cond) ∈ wsX3_perform := by decide +kernel
def rmX3_perform : Room := { frames := 3, cells := 0, slots := 0, locals := 80 }
set_option maxHeartbeats 4000000 in
set_option maxRecDepth 100000 in
theorem kX3_perform (l : Launch) (dC : Nat → ClassId) (dI : Nat → Nat → Nat) (q : Nat → Nat) (cI cJ cZ : ClassId) (nr : Int32) (wd : Nat → Int32) (sg : Nat → Int32) (lw : Nat → Int64) (hg : Nat → Int64) (fr : Nat → Int32) (to : Nat → Int32) (sn : Int32) (pl : Int32) (kd : Nat → Int32) (tg : Nat → Int32) (sa : Nat → Int32) (sb : Nat → Int32) (bn : Nat → Int32) (mt : Nat → Int32) (pa : Nat → Int32) (ob : Int32) (tb : Int32) (fo : Int32) (rv : Nat → Int64) (ro : Int32) (tk : Int32) (ov : Nat → Int32) (sh : Nat → Int32) (tu : Nat → Int32) (rk : Int32) (cb : Int32) (rlo : Int64) (rhi : Int64) (rl : Nat → Int64) (rg : Nat → Int64) (tf : Int32) (kn : Int32) (tl : Nat → Int64) (th : Nat → Int64) (tv : Nat → Int64) (x1 : Int32) (RES : (Int32) × (Int32) × (Int32) × (Nat → Int64)) (hres : mX3_perform nr wd sg lw hg kd tg sa sb bn ob tb fo rv x1 = some RES) : CtV l yX3_perform wsX3_perform rmX3_perform (dC, dI) (ty3 cI cJ cZ) (wC q cI cJ cZ nr wd sg lw hg fr to sn pl kd tg sa sb bn mt pa ob tb fo rv ro tk ov sh tu rk cb rlo rhi rl rg tf kn tl th tv) [.ref (q 17), .int x1] (wC q cI cJ cZ nr wd sg lw hg fr to sn pl kd tg sa sb bn mt pa RES.1 RES.2.1 RES.2.2.1 RES.2.2.2 ro tk ov sh tu rk cb rlo rhi rl rg tf kn tl th tv) := by
  intro sz
  refine ct_entry (cc := cX3_perform) (maxL := 5) (ret := none) (own := RX3) (by decide) rfl rfl (Nat.le_of_ble_eq_true rfl) (ll := [(0, .ref (q 17)), (1, .int x1)]) rfl ?_
  intro p e s m args below meth c hsz C0 _ hP hD ls hl
  have C1 := C0
  obtain ⟨hx, hb, hr, hml, hown, hts, hlocks, hN, hK, hA⟩ := C1
  have hS : va_S (va_A (wC q cI cJ cZ nr wd sg lw hg fr to sn pl kd tg sa sb bn mt pa ob tb fo rv ro tk ov sh tu rk cb rlo rhi rl rg tf kn tl th tv) sz) s.heap s.heap [] := va_S.rf
  generalize va_A (wC q cI cJ cZ nr wd sg lw hg fr to sn pl kd tg sa sb bn mt pa ob tb fo rv ro tk ov sh tu rk cb rlo rhi rl rg tf kn tl th tv) sz = A at C0 hD hA hS ⊢
  show W p l e rmX3_perform s m args below meth c s.heap [] 0 0 (QV below args s A (dC, dI) (ty3 cI cJ cZ) (wC q cI cJ cZ nr wd sg lw hg fr to sn pl kd tg sa sb bn mt pa RES.1 RES.2.1 RES.2.2.1 RES.2.2.2 ro tk ov sh tu rk cb rlo rhi rl rg tf kn tl th tv)) (F0 m 0 ls [])
  unfold mX3_perform at hres
  refine lv_aload_n hx hb dX3_perform_0 rfl (lv_at hl 0 rfl) ?_
  refine va_get (D := (dC, dI)) (ci := 3) (v := .ref (q 9)) (C := RX3) (T := TX3) (N := 6) hx hb hts hwX3_perform_RX3 hown hK hP 17 rfl rfl 1 (by decide) (hts _ mwX3_perform_0) (fun _ h9 => h9) rfl dX3_perform_1 ?_
  refine va_get (D := (dC, dI)) (ci := 4) (v := .ref (q 11)) (C := RX4) (T := TX4) (N := 9) hx hb hts hwX3_perform_RX4 hown hK hP 9 rfl rfl 1 (by decide) (hts _ mwX3_perform_1) (fun _ h9 => h9) rfl dX3_perform_4 ?_
  refine lv_iload_n hx hb dX3_perform_7 rfl (lv_at hl 1 rfl) ?_
  obtain ⟨g_1, hres⟩ := mi_g hres
  refine va_iald (D := (dC, dI)) (cl := vwCl) hx hb hK hP 11 0 rfl rfl g_1 dX3_perform_8 ?_
  refine lv_istore_n (lv' := [(2, .int (tg (Int32.toNatClampNeg x1))), (0, .ref (q 17)), (1, .int x1)]) hx hb dX3_perform_9 rfl hl (by decide) rfl (fun ls hl => ?_)
  refine lv_aload_n hx hb dX3_perform_10 rfl (lv_at hl 1 rfl) ?_
  refine lv_iload_n hx hb dX3_perform_11 rfl (lv_at hl 2 rfl) ?_
  obtain ⟨u2, hu2, hres⟩ := mi_b hres
  refine call_L C0 (run_V C0 (rest := []) (kX3_answer l dC dI q cI cJ cZ nr wd sg lw hg fr to sn pl kd tg sa sb bn mt pa ob tb fo rv ro tk ov sh tu rk cb rlo rhi rl rg tf kn tl th tv  x1 u2 hu2 _) (cwV 1 hts gX3_perform_X3_answer rfl rfl rfl (by decide +kernel) ⟨by decide, by decide⟩) hP hD (ci := 3) (q0 := 17) rfl rfl rfl hl.1 rfl (Nat.le_of_ble_eq_true rfl) dX3_perform_12) hD hS (fun H locs hP hD hS => ?_)
  refine lv_lstore_n (lv' := [(3, .long u2.1), (2, .int (tg (Int32.toNatClampNeg x1))), (0, .ref (q 17)), (1, .int x1)]) hx hb dX3_perform_15 rfl hl (by decide) rfl (fun ls hl => ?_)
  refine lv_aload_n hx hb dX3_perform_16 rfl (lv_at hl 2 rfl) ?_
  refine va_get (D := (dC, dI)) (ci := 3) (v := .ref (q 1)) (C := RX3) (T := TX3) (N := 6) hx hb hts hwX3_perform_RX3 hown hK hP 17 rfl rfl 0 (by decide) (hts _ mwX3_perform_2) (fun _ h9 => h9) rfl dX3_perform_17 ?_
  refine lv_iload_n hx hb dX3_perform_20 rfl (lv_at hl 1 rfl) ?_
  refine lv_lload_n hx hb dX3_perform_21 rfl (lv_at hl 0 rfl) ?_
  obtain ⟨u3, hu3, hres⟩ := mi_b hres
  refine call_I C0 (run_V C0 (rest := []) (kX1_holds l dC dI q cI cJ cZ nr wd sg lw hg fr to sn pl kd tg sa sb bn mt pa ob u2.2 fo rv ro tk ov sh tu rk cb rlo rhi rl rg tf kn tl th tv  (tg (Int32.toNatClampNeg x1)) u2.1 u3 hu3 _) (cwV 2 hts gX3_perform_X1_holds rfl rfl rfl (by decide +kernel) ⟨by decide, by decide⟩) hP hD (ci := 1) (q0 := 1) rfl rfl rfl hl.1 rfl (Nat.le_of_ble_eq_true rfl) dX3_perform_22) hD hS (fun H locs hP hD hS => ?_)
  refine lv_if_ne (tgt := 33) hx hb dX3_perform_25 (by decide) (fun c_4 => ?_) (fun c_4 => ?_)
  · replace hres := mi_n c_4 hres
    refine lv_aload_n hx hb dX3_perform_33 rfl (lv_at hl 2 rfl) ?_
    refine va_get (D := (dC, dI)) (ci := 3) (v := .ref (q 18)) (C := RX3) (T := TX3) (N := 6) hx hb hts hwX3_perform_RX3 hown hK hP 17 rfl rfl 2 (by decide) (hts _ mwX3_perform_3) (fun _ h9 => h9) rfl dX3_perform_34 ?_
    refine lv_iload_n hx hb dX3_perform_37 rfl (lv_at hl 1 rfl) ?_
    refine lv_aload_n hx hb dX3_perform_38 rfl (lv_at hl 2 rfl) ?_
    refine va_get (D := (dC, dI)) (ci := 3) (v := .ref (q 1)) (C := RX3) (T := TX3) (N := 6) hx hb hts hwX3_perform_RX3 hown hK hP 17 rfl rfl 0 (by decide) (hts _ mwX3_perform_2) (fun _ h9 => h9) rfl dX3_perform_39 ?_
    refine lv_iload_n hx hb dX3_perform_42 rfl (lv_at hl 1 rfl) ?_
    refine lv_lload_n hx hb dX3_perform_43 rfl (lv_at hl 0 rfl) ?_
    obtain ⟨u5, hu5, hres⟩ := mi_b hres
    refine call_L C0 (run_V C0 (rest := [.int (tg (Int32.toNatClampNeg x1)), .ref (q 18)]) (kX1_fitted l dC dI q cI cJ cZ nr wd sg lw hg fr to sn pl kd tg sa sb bn mt pa ob u2.2 fo rv ro tk ov sh tu rk cb rlo rhi rl rg tf kn tl th tv  (tg (Int32.toNatClampNeg x1)) u2.1 u5 hu5 _) (cwV 2 hts gX3_perform_X1_fitted rfl rfl rfl (by decide +kernel) ⟨by decide, by decide⟩) hP hD (ci := 1) (q0 := 1) rfl rfl rfl hl.1 rfl (Nat.le_of_ble_eq_true rfl) dX3_perform_44) hD hS (fun H locs hP hD hS => ?_)
    obtain ⟨g_6, hres⟩ := mi_g hres
    refine va_last (D := (dC, dI)) (cl := vwCl) hx hb hK hP hD hS 18 1 rfl rfl g_6 dX3_perform_47 (fun H locs hP hD hS => ?_)
    have hP : va_P (dC, dI) vwCl (wC q cI cJ cZ nr wd sg lw hg fr to sn pl kd tg sa sb bn mt pa ob u2.2 fo (vp_updL rv (Int32.toNatClampNeg (tg (Int32.toNatClampNeg x1))) u5) ro tk ov sh tu rk cb rlo rhi rl rg tf kn tl th tv) H := hP
    have hD : va_D A (wC q cI cJ cZ nr wd sg lw hg fr to sn pl kd tg sa sb bn mt pa ob u2.2 fo (vp_updL rv (Int32.toNatClampNeg (tg (Int32.toNatClampNeg x1))) u5) ro tk ov sh tu rk cb rlo rhi rl rg tf kn tl th tv) := hD
    obtain rfl := Option.some.inj hres
    exact ret_V C0 hP hD hS dX3_perform_48
  · replace hres := mi_p c_4 hres
    refine lv_aload_n hx hb dX3_perform_28 rfl (lv_at hl 2 rfl) ?_
    refine lv_iload_n hx hb dX3_perform_29 rfl (lv_at hl 3 rfl) ?_
    obtain ⟨u7, hu7, hres⟩ := mi_b hres
    refine call_V C0 (run_V C0 (rest := []) (kX3_noteOver l dC dI q cI cJ cZ nr wd sg lw hg fr to sn pl kd tg sa sb bn mt pa ob u2.2 fo rv ro tk ov sh tu rk cb rlo rhi rl rg tf kn tl th tv  x1 u7 hu7 _) (cwV 1 hts gX3_perform_X3_noteOver rfl rfl rfl (by decide +kernel) ⟨by decide, by decide⟩) hP hD (ci := 3) (q0 := 17) rfl rfl rfl hl.1 rfl (Nat.le_of_ble_eq_true rfl) dX3_perform_30) hD hS (fun H locs hP hD hS => ?_)
    refine lv_aload_n hx hb dX3_perform_33 rfl (lv_at hl 2 rfl) ?_
    refine va_get (D := (dC, dI)) (ci := 3) (v := .ref (q 18)) (C := RX3) (T := TX3) (N := 6) hx hb hts hwX3_perform_RX3 hown hK hP 17 rfl rfl 2 (by decide) (hts _ mwX3_perform_3) (fun _ h9 => h9) rfl dX3_perform_34 ?_
    refine lv_iload_n hx hb dX3_perform_37 rfl (lv_at hl 1 rfl) ?_
    refine lv_aload_n hx hb dX3_perform_38 rfl (lv_at hl 2 rfl) ?_
    refine va_get (D := (dC, dI)) (ci := 3) (v := .ref (q 1)) (C := RX3) (T := TX3) (N := 6) hx hb hts hwX3_perform_RX3 hown hK hP 17 rfl rfl 0 (by decide) (hts _ mwX3_perform_2) (fun _ h9 => h9) rfl dX3_perform_39 ?_
    refine lv_iload_n hx hb dX3_perform_42 rfl (lv_at hl 1 rfl) ?_
    refine lv_lload_n hx hb dX3_perform_43 rfl (lv_at hl 0 rfl) ?_
    obtain ⟨u8, hu8, hres⟩ := mi_b hres
    refine call_L C0 (run_V C0 (rest := [.int (tg (Int32.toNatClampNeg x1)), .ref (q 18)]) (kX1_fitted l dC dI q cI cJ cZ nr wd sg lw hg fr to sn pl kd tg sa sb bn mt pa u7.1 u2.2 u7.2 rv ro tk ov sh tu rk cb rlo rhi rl rg tf kn tl th tv  (tg (Int32.toNatClampNeg x1)) u2.1 u8 hu8 _) (cwV 2 hts gX3_perform_X1_fitted rfl rfl rfl (by decide +kernel) ⟨by decide, by decide⟩) hP hD (ci := 1) (q0 := 1) rfl rfl rfl hl.1 rfl (Nat.le_of_ble_eq_true rfl) dX3_perform_44) hD hS (fun H locs hP hD hS => ?_)
    obtain ⟨g_9, hres⟩ := mi_g hres
    refine va_last (D := (dC, dI)) (cl := vwCl) hx hb hK hP hD hS 18 1 rfl rfl g_9 dX3_perform_47 (fun H locs hP hD hS => ?_)
    have hP : va_P (dC, dI) vwCl (wC q cI cJ cZ nr wd sg lw hg fr to sn pl kd tg sa sb bn mt pa u7.1 u2.2 u7.2 (vp_updL rv (Int32.toNatClampNeg (tg (Int32.toNatClampNeg x1))) u8) ro tk ov sh tu rk cb rlo rhi rl rg tf kn tl th tv) H := hP
    have hD : va_D A (wC q cI cJ cZ nr wd sg lw hg fr to sn pl kd tg sa sb bn mt pa u7.1 u2.2 u7.2 (vp_updL rv (Int32.toNatClampNeg (tg (Int32.toNatClampNeg x1))) u8) ro tk ov sh tu rk cb rlo rhi rl rg tf kn tl th tv) := hD
    obtain rfl := Option.some.inj hres
    exact ret_V C0 hP hD hS dX3_perform_48
/-! ### SumsOver$Runner.follow(II)V -/
set_option maxRecDepth 20000 in
theorem hwX3_follow_RX3 : ∀ w ∈ u_ws RX3 TX3 6, w ∈ wsX3_follow := by decide +kernel
theorem mwX3_follow_0 : (.fieldLink RX3 23 "SumsOver$Runner" "overBits" "I" : Cond) ∈ wsX3_follow := by decide +kernel
theorem mwX3_follow_1 : (.fieldLink RX3 27 "SumsOver$Runner" "turnedBits" "I" : Cond) ∈ wsX3_follow := by decide +kernel
theorem mwX3_follow_2 : (.fieldLink RX3 30 "SumsOver$Runner" "firstOver" "I" : Cond) ∈ wsX3_follow := by decide +kernel
theorem mwX3_follow_3 : (.fieldLink RX3 9 "SumsOver$Runner" "values" "[J" : Cond) ∈ wsX3_follow := by decide +kernel
theorem mwX3_follow_4 : (.fieldLink RX3 15 "SumsOver$Runner" "names" "LSumsOver$Names;" : Cond) ∈ wsX3_follow := by decide +kernel
theorem mwX3_follow_5 : (.fieldLink RX3 19 "SumsOver$Runner" "steps" "LSumsOver$Steps;" : Cond) ∈ wsX3_follow := by decide +kernel
set_option maxRecDepth 20000 in
theorem hwX3_follow_RX4 : ∀ w ∈ u_ws RX4 TX4 9, w ∈ wsX3_follow := by decide +kernel
theorem mwX3_follow_6 : (.fieldLink RX3 45 "SumsOver$Steps" "pathLength" "I" : Cond) ∈ wsX3_follow := by decide +kernel
theorem mwX3_follow_7 : (.fieldLink RX3 50 "SumsOver$Steps" "path" "[I" : Cond) ∈ wsX3_follow := by decide +kernel
def rmX3_follow : Room := { frames := 4, cells := 0, slots := 0, locals := 104 }
def iX3_follow_L57 (p : Program) (l : Launch) (e : Env) (s : State) (m : MethodId) (args : Array Value) (below : List Frame) (meth : Method) (c : Code) (A : Nat → Prop) (dC : Nat → ClassId) (dI : Nat → Nat → Nat) (q : Nat → Nat) (cI cJ cZ : ClassId) (nr : Int32) (wd : Nat → Int32) (sg : Nat → Int32) (lw : Nat → Int64) (hg : Nat → Int64) (fr : Nat → Int32) (to : Nat → Int32) (sn : Int32) (pl : Int32) (kd : Nat → Int32) (tg : Nat → Int32) (sa : Nat → Int32) (sb : Nat → Int32) (bn : Nat → Int32) (mt : Nat → Int32) (pa : Nat → Int32) (ro : Int32) (tk : Int32) (ov : Nat → Int32) (sh : Nat → Int32) (tu : Nat → Int32) (rk : Int32) (cb : Int32) (rlo : Int64) (rhi : Int64) (rl : Nat → Int64) (rg : Nat → Int64) (tf : Int32) (kn : Int32) (tl : Nat → Int64) (th : Nat → Int64) (tv : Nat → Int64)  (RES : (Int32) × (Int32) × (Int32) × (Nat → Int64)) (k : (Int32) → (Int32) → (Int32) → (Nat → Int64) → (Int32) → Option ((Int32) × (Int32) × (Int32) × (Nat → Int64))) : Prop := ∀ (ob : Int32) (tb : Int32) (fo : Int32) (rv : Nat → Int64) (x3 : Int32) (H : Heap) (locs : List Loc) (ls : Array Slot), va_P (dC, dI) vwCl (wC q cI cJ cZ nr wd sg lw hg fr to sn pl kd tg sa sb bn mt pa ob tb fo rv ro tk ov sh tu rk cb rlo rhi rl rg tf kn tl th tv) H → va_D A (wC q cI cJ cZ nr wd sg lw hg fr to sn pl kd tg sa sb bn mt pa ob tb fo rv ro tk ov sh tu rk cb rlo rhi rl rg tf kn tl th tv) → va_S A s.heap H locs → lv_has ls 4 [(0, .ref (q 17)), (3, .int x3)] → k ob tb fo rv x3 = some RES → W p l e rmX3_follow s m args below meth c H locs 0 0 (QV below args s A (dC, dI) (ty3 cI cJ cZ) (wC q cI cJ cZ nr wd sg lw hg fr to sn pl kd tg sa sb bn mt pa RES.1 RES.2.1 RES.2.2.1 RES.2.2.2 ro tk ov sh tu rk cb rlo rhi rl rg tf kn tl th tv)) (F0 m 57 ls [])
set_option maxHeartbeats 4000000 in
set_option maxRecDepth 100000 in
theorem zX3_follow_L57 {p : Program} {l : Launch} {e : Env} {s : State} {m : MethodId} {args : Array Value} {below : List Frame} {meth : Method} {c : Code} {A : Nat → Prop} {dC : Nat → ClassId} {dI : Nat → Nat → Nat} {q : Nat → Nat} {cI cJ cZ : ClassId} {nr : Int32} {wd : Nat → Int32} {sg : Nat → Int32} {lw : Nat → Int64} {hg : Nat → Int64} {fr : Nat → Int32} {to : Nat → Int32} {sn : Int32} {pl : Int32} {kd : Nat → Int32} {tg : Nat → Int32} {sa : Nat → Int32} {sb : Nat → Int32} {bn : Nat → Int32} {mt : Nat → Int32} {pa : Nat → Int32} {ro : Int32} {tk : Int32} {ov : Nat → Int32} {sh : Nat → Int32} {tu : Nat → Int32} {rk : Int32} {cb : Int32} {rlo : Int64} {rhi : Int64} {rl : Nat → Int64} {rg : Nat → Int64} {tf : Int32} {kn : Int32} {tl : Nat → Int64} {th : Nat → Int64} {tv : Nat → Int64}  (C0 : Cx p s m args meth c cX3_follow 4 none RX3 wsX3_follow A (dC, dI) (ty3 cI cJ cZ)) {RES : (Int32) × (Int32) × (Int32) × (Nat → Int64)}  : ∀ n : Nat, iX3_follow_L57 p l e s m args below meth c A dC dI q cI cJ cZ nr wd sg lw hg fr to sn pl kd tg sa sb bn mt pa ro tk ov sh tu rk cb rlo rhi rl rg tf kn tl th tv RES (mX3_follow_L57 nr wd sg lw hg pl kd tg sa sb bn pa n) := by
  have C1 := C0
  obtain ⟨hx, hb, hr, hml, hown, hts, hlocks, hN, hK, hA⟩ := C1
  intro n
  induction n with
  | zero =>
    intro ob tb fo rv x3 H locs ls hP hD hS hl hres
    exact mi_0 hres
  | succ n ih =>
    intro ob tb fo rv x3 H locs ls hP hD hS hl hres
    rw [mX3_follow_L57] at hres
    refine lv_iload_n hx hb dX3_follow_57 rfl (lv_at hl 1 rfl) ?_
    refine lv_aload_n hx hb dX3_follow_58 rfl (lv_at hl 0 rfl) ?_
    refine va_get (D := (dC, dI)) (ci := 3) (v := .ref (q 9)) (C := RX3) (T := TX3) (N := 6) hx hb hts hwX3_follow_RX3 hown hK hP 17 rfl rfl 1 (by decide) (hts _ mwX3_follow_5) (fun _ h9 => h9) rfl dX3_follow_59 ?_
    refine va_get (D := (dC, dI)) (ci := 4) (v := .int pl) (C := RX4) (T := TX4) (N := 9) hx hb hts hwX3_follow_RX4 hown hK hP 9 rfl rfl 8 (by decide) (hts _ mwX3_follow_6) (fun _ h9 => h9) rfl dX3_follow_62 ?_
    refine lv_icmp_ge (tgt := 87) hx hb dX3_follow_65 (by decide) (fun c_4 => ?_) (fun c_4 => ?_)
    · replace hres := mi_p c_4 hres
      obtain rfl := Option.some.inj hres
      exact ret_V C0 hP hD hS dX3_follow_87
    · replace hres := mi_n c_4 hres
      refine lv_aload_n hx hb dX3_follow_68 rfl (lv_at hl 0 rfl) ?_
      refine lv_aload_n hx hb dX3_follow_69 rfl (lv_at hl 0 rfl) ?_
      refine va_get (D := (dC, dI)) (ci := 3) (v := .ref (q 9)) (C := RX3) (T := TX3) (N := 6) hx hb hts hwX3_follow_RX3 hown hK hP 17 rfl rfl 1 (by decide) (hts _ mwX3_follow_5) (fun _ h9 => h9) rfl dX3_follow_70 ?_
      refine va_get (D := (dC, dI)) (ci := 4) (v := .ref (q 16)) (C := RX4) (T := TX4) (N := 9) hx hb hts hwX3_follow_RX4 hown hK hP 9 rfl rfl 7 (by decide) (hts _ mwX3_follow_7) (fun _ h9 => h9) rfl dX3_follow_73 ?_
      refine lv_iload_n hx hb dX3_follow_76 rfl (lv_at hl 1 rfl) ?_
      obtain ⟨g_5, hres⟩ := mi_g hres
      refine va_iald (D := (dC, dI)) (cl := vwCl) hx hb hK hP 16 0 rfl rfl g_5 dX3_follow_77 ?_
      obtain ⟨u6, hu6, hres⟩ := mi_b hres
      refine call_V C0 (run_V C0 (rest := []) (kX3_perform l dC dI q cI cJ cZ nr wd sg lw hg fr to sn pl kd tg sa sb bn mt pa ob tb fo rv ro tk ov sh tu rk cb rlo rhi rl rg tf kn tl th tv  (pa (Int32.toNatClampNeg x3)) u6 hu6 _) (cwV 1 hts gX3_follow_X3_perform rfl rfl rfl (by decide +kernel) ⟨by decide, by decide⟩) hP hD (ci := 3) (q0 := 17) rfl rfl rfl hl.1 rfl (Nat.le_of_ble_eq_true rfl) dX3_follow_78) hD hS (fun H locs hP hD hS => ?_)
      refine lv_iinc (v := x3 + (1 : Int32)) (lv' := [(3, .int (x3 + (1 : Int32))), (0, .ref (q 17))]) hx hb dX3_follow_81 hl (k := 1) rfl rfl (by decide) rfl (fun ls hl => ?_)
      refine lv_goto (tgt := 57) hx hb dX3_follow_84 (by decide) ?_
      exact ih u6.1 u6.2.1 u6.2.2.1 u6.2.2.2 (x3 + (1 : Int32)) _ _ ls hP hD hS (lv_sub hl [1, 0] rfl) hres
set_option maxHeartbeats 4000000 in
set_option maxRecDepth 100000 in
theorem kX3_follow (l : Launch) (dC : Nat → ClassId) (dI : Nat → Nat → Nat) (q : Nat → Nat) (cI cJ cZ : ClassId) (nr : Int32) (wd : Nat → Int32) (sg : Nat → Int32) (lw : Nat → Int64) (hg : Nat → Int64) (fr : Nat → Int32) (to : Nat → Int32) (sn : Int32) (pl : Int32) (kd : Nat → Int32) (tg : Nat → Int32) (sa : Nat → Int32) (sb : Nat → Int32) (bn : Nat → Int32) (mt : Nat → Int32) (pa : Nat → Int32) (ob : Int32) (tb : Int32) (fo : Int32) (rv : Nat → Int64) (ro : Int32) (tk : Int32) (ov : Nat → Int32) (sh : Nat → Int32) (tu : Nat → Int32) (rk : Int32) (cb : Int32) (rlo : Int64) (rhi : Int64) (rl : Nat → Int64) (rg : Nat → Int64) (tf : Int32) (kn : Int32) (tl : Nat → Int64) (th : Nat → Int64) (tv : Nat → Int64) (x1 : Int32) (x2 : Int32) (RES : (Int32) × (Int32) × (Int32) × (Nat → Int64)) (hres : mX3_follow nr wd sg lw hg pl kd tg sa sb bn pa ob tb fo rv x1 x2 = some RES) : CtV l yX3_follow wsX3_follow rmX3_follow (dC, dI) (ty3 cI cJ cZ) (wC q cI cJ cZ nr wd sg lw hg fr to sn pl kd tg sa sb bn mt pa ob tb fo rv ro tk ov sh tu rk cb rlo rhi rl rg tf kn tl th tv) [.ref (q 17), .int x1, .int x2] (wC q cI cJ cZ nr wd sg lw hg fr to sn pl kd tg sa sb bn mt pa RES.1 RES.2.1 RES.2.2.1 RES.2.2.2 ro tk ov sh tu rk cb rlo rhi rl rg tf kn tl th tv) := by
  intro sz
  refine ct_entry (cc := cX3_follow) (maxL := 4) (ret := none) (own := RX3) (by decide) rfl rfl (Nat.le_of_ble_eq_true rfl) (ll := [(0, .ref (q 17)), (1, .int x1), (2, .int x2)]) rfl ?_
  intro p e s m args below meth c hsz C0 _ hP hD ls hl
  have C1 := C0
  obtain ⟨hx, hb, hr, hml, hown, hts, hlocks, hN, hK, hA⟩ := C1
  have hS : va_S (va_A (wC q cI cJ cZ nr wd sg lw hg fr to sn pl kd tg sa sb bn mt pa ob tb fo rv ro tk ov sh tu rk cb rlo rhi rl rg tf kn tl th tv) sz) s.heap s.heap [] := va_S.rf
  generalize va_A (wC q cI cJ cZ nr wd sg lw hg fr to sn pl kd tg sa sb bn mt pa ob tb fo rv ro tk ov sh tu rk cb rlo rhi rl rg tf kn tl th tv) sz = A at C0 hD hA hS ⊢
  show W p l e rmX3_follow s m args below meth c s.heap [] 0 0 (QV below args s A (dC, dI) (ty3 cI cJ cZ) (wC q cI cJ cZ nr wd sg lw hg fr to sn pl kd tg sa sb bn mt pa RES.1 RES.2.1 RES.2.2.1 RES.2.2.2 ro tk ov sh tu rk cb rlo rhi rl rg tf kn tl th tv)) (F0 m 0 ls [])
  unfold mX3_follow at hres
  refine lv_aload_n hx hb dX3_follow_0 rfl (lv_at hl 0 rfl) ?_
  refine lv_iconst (v := (0 : Int32)) hx hb dX3_follow_1 (by decide) ?_
  refine va_put (D := (dC, dI)) (ci := 3) (v := .int (0 : Int32)) (ty := .int) (C := RX3) (T := TX3) (N := 6) hx hb hts hwX3_follow_RX3 tyX3 tyX3_ok nmX3 hown hK hP hD hS 17 rfl rfl 3 (by decide) (hts _ mwX3_follow_0) (fun _ h9 => h9) rfl (by decide +kernel) rfl rfl (Nat.le_of_ble_eq_true rfl) dX3_follow_2 (fun H locs hP hD hS => ?_)
  have hP : va_P (dC, dI) vwCl (wC q cI cJ cZ nr wd sg lw hg fr to sn pl kd tg sa sb bn mt pa (0 : Int32) tb fo rv ro tk ov sh tu rk cb rlo rhi rl rg tf kn tl th tv) H := hP
  have hD : va_D A (wC q cI cJ cZ nr wd sg lw hg fr to sn pl kd tg sa sb bn mt pa (0 : Int32) tb fo rv ro tk ov sh tu rk cb rlo rhi rl rg tf kn tl th tv) := hD
  refine lv_aload_n hx hb dX3_follow_5 rfl (lv_at hl 0 rfl) ?_
  refine lv_iconst (v := (0 : Int32)) hx hb dX3_follow_6 (by decide) ?_
  refine va_put (D := (dC, dI)) (ci := 3) (v := .int (0 : Int32)) (ty := .int) (C := RX3) (T := TX3) (N := 6) hx hb hts hwX3_follow_RX3 tyX3 tyX3_ok nmX3 hown hK hP hD hS 17 rfl rfl 4 (by decide) (hts _ mwX3_follow_1) (fun _ h9 => h9) rfl (by decide +kernel) rfl rfl (Nat.le_of_ble_eq_true rfl) dX3_follow_7 (fun H locs hP hD hS => ?_)
  have hP : va_P (dC, dI) vwCl (wC q cI cJ cZ nr wd sg lw hg fr to sn pl kd tg sa sb bn mt pa (0 : Int32) (0 : Int32) fo rv ro tk ov sh tu rk cb rlo rhi rl rg tf kn tl th tv) H := hP
  have hD : va_D A (wC q cI cJ cZ nr wd sg lw hg fr to sn pl kd tg sa sb bn mt pa (0 : Int32) (0 : Int32) fo rv ro tk ov sh tu rk cb rlo rhi rl rg tf kn tl th tv) := hD
  refine lv_aload_n hx hb dX3_follow_10 rfl (lv_at hl 0 rfl) ?_
  refine lv_iconst (v := (-1 : Int32)) hx hb dX3_follow_11 (by decide) ?_
  refine va_put (D := (dC, dI)) (ci := 3) (v := .int (-1 : Int32)) (ty := .int) (C := RX3) (T := TX3) (N := 6) hx hb hts hwX3_follow_RX3 tyX3 tyX3_ok nmX3 hown hK hP hD hS 17 rfl rfl 5 (by decide) (hts _ mwX3_follow_2) (fun _ h9 => h9) rfl (by decide +kernel) rfl rfl (Nat.le_of_ble_eq_true rfl) dX3_follow_12 (fun H locs hP hD hS => ?_)
  have hP : va_P (dC, dI) vwCl (wC q cI cJ cZ nr wd sg lw hg fr to sn pl kd tg sa sb bn mt pa (0 : Int32) (0 : Int32) (-1 : Int32) rv ro tk ov sh tu rk cb rlo rhi rl rg tf kn tl th tv) H := hP
  have hD : va_D A (wC q cI cJ cZ nr wd sg lw hg fr to sn pl kd tg sa sb bn mt pa (0 : Int32) (0 : Int32) (-1 : Int32) rv ro tk ov sh tu rk cb rlo rhi rl rg tf kn tl th tv) := hD
  refine lv_aload_n hx hb dX3_follow_15 rfl (lv_at hl 0 rfl) ?_
  refine va_get (D := (dC, dI)) (ci := 3) (v := .ref (q 18)) (C := RX3) (T := TX3) (N := 6) hx hb hts hwX3_follow_RX3 hown hK hP 17 rfl rfl 2 (by decide) (hts _ mwX3_follow_3) (fun _ h9 => h9) rfl dX3_follow_16 ?_
  refine lv_lconst (v := (0 : Int64)) hx hb dX3_follow_19 (by decide) ?_
  refine call_V C0 (run_S C0 (rest := []) (kflL l (dC, dI) (ty3 cI cJ cZ) _ 18 (q 18) cJ 6 rv (0 : Int64) rfl rfl (by decide) _) (va_cwS 2 hts gX3_follow_J7_fill_d0a16 rfl rfl rfl (by decide +kernel) ⟨by decide, by decide⟩) hP hD rfl hl.1 rfl (Nat.le_of_ble_eq_true rfl) dX3_follow_20) hD hS (fun H locs hP hD hS => ?_)
  have hP : va_P (dC, dI) vwCl (wC q cI cJ cZ nr wd sg lw hg fr to sn pl kd tg sa sb bn mt pa (0 : Int32) (0 : Int32) (-1 : Int32) (flL 6 (0 : Int64) rv) ro tk ov sh tu rk cb rlo rhi rl rg tf kn tl th tv) H := hP
  have hD : va_D A (wC q cI cJ cZ nr wd sg lw hg fr to sn pl kd tg sa sb bn mt pa (0 : Int32) (0 : Int32) (-1 : Int32) (flL 6 (0 : Int64) rv) ro tk ov sh tu rk cb rlo rhi rl rg tf kn tl th tv) := hD
  refine lv_aload_n hx hb dX3_follow_23 rfl (lv_at hl 0 rfl) ?_
  refine va_get (D := (dC, dI)) (ci := 3) (v := .ref (q 18)) (C := RX3) (T := TX3) (N := 6) hx hb hts hwX3_follow_RX3 hown hK hP 17 rfl rfl 2 (by decide) (hts _ mwX3_follow_3) (fun _ h9 => h9) rfl dX3_follow_24 ?_
  refine lv_iconst (v := (0 : Int32)) hx hb dX3_follow_27 (by decide) ?_
  refine lv_aload_n hx hb dX3_follow_28 rfl (lv_at hl 0 rfl) ?_
  refine va_get (D := (dC, dI)) (ci := 3) (v := .ref (q 1)) (C := RX3) (T := TX3) (N := 6) hx hb hts hwX3_follow_RX3 hown hK hP 17 rfl rfl 0 (by decide) (hts _ mwX3_follow_4) (fun _ h9 => h9) rfl dX3_follow_29 ?_
  refine lv_iconst (v := (0 : Int32)) hx hb dX3_follow_32 (by decide) ?_
  refine lv_iload_n hx hb dX3_follow_33 rfl (lv_at hl 1 rfl) ?_
  refine lv_i2l (v := (x1).toInt64) hx hb dX3_follow_34 rfl ?_
  obtain ⟨u2, hu2, hres⟩ := mi_b hres
  refine call_L C0 (run_V C0 (rest := [.int (0 : Int32), .ref (q 18)]) (kX1_fitted l dC dI q cI cJ cZ nr wd sg lw hg fr to sn pl kd tg sa sb bn mt pa (0 : Int32) (0 : Int32) (-1 : Int32) (flL 6 (0 : Int64) rv) ro tk ov sh tu rk cb rlo rhi rl rg tf kn tl th tv  (0 : Int32) ((x1).toInt64) u2 hu2 _) (cwV 2 hts gX3_follow_X1_fitted rfl rfl rfl (by decide +kernel) ⟨by decide, by decide⟩) hP hD (ci := 1) (q0 := 1) rfl rfl rfl hl.1 rfl (Nat.le_of_ble_eq_true rfl) dX3_follow_35) hD hS (fun H locs hP hD hS => ?_)
  refine va_last (D := (dC, dI)) (cl := vwCl) hx hb hK hP hD hS 18 1 rfl rfl (show ¬ ((0 : Int32) < 0 ∨ 6 ≤ Int32.toNatClampNeg (0 : Int32)) by decide) dX3_follow_38 (fun H locs hP hD hS => ?_)
  have hP : va_P (dC, dI) vwCl (wC q cI cJ cZ nr wd sg lw hg fr to sn pl kd tg sa sb bn mt pa (0 : Int32) (0 : Int32) (-1 : Int32) (vp_updL (flL 6 (0 : Int64) rv) (Int32.toNatClampNeg (0 : Int32)) u2) ro tk ov sh tu rk cb rlo rhi rl rg tf kn tl th tv) H := hP
  have hD : va_D A (wC q cI cJ cZ nr wd sg lw hg fr to sn pl kd tg sa sb bn mt pa (0 : Int32) (0 : Int32) (-1 : Int32) (vp_updL (flL 6 (0 : Int64) rv) (Int32.toNatClampNeg (0 : Int32)) u2) ro tk ov sh tu rk cb rlo rhi rl rg tf kn tl th tv) := hD
  refine lv_aload_n hx hb dX3_follow_39 rfl (lv_at hl 0 rfl) ?_
  refine va_get (D := (dC, dI)) (ci := 3) (v := .ref (q 18)) (C := RX3) (T := TX3) (N := 6) hx hb hts hwX3_follow_RX3 hown hK hP 17 rfl rfl 2 (by decide) (hts _ mwX3_follow_3) (fun _ h9 => h9) rfl dX3_follow_40 ?_
  refine lv_iconst (v := (1 : Int32)) hx hb dX3_follow_43 (by decide) ?_
  refine lv_aload_n hx hb dX3_follow_44 rfl (lv_at hl 0 rfl) ?_
  refine va_get (D := (dC, dI)) (ci := 3) (v := .ref (q 1)) (C := RX3) (T := TX3) (N := 6) hx hb hts hwX3_follow_RX3 hown hK hP 17 rfl rfl 0 (by decide) (hts _ mwX3_follow_4) (fun _ h9 => h9) rfl dX3_follow_45 ?_
  refine lv_iconst (v := (1 : Int32)) hx hb dX3_follow_48 (by decide) ?_
  refine lv_iload_n hx hb dX3_follow_49 rfl (lv_at hl 2 rfl) ?_
  refine lv_i2l (v := (x2).toInt64) hx hb dX3_follow_50 rfl ?_
  obtain ⟨u3, hu3, hres⟩ := mi_b hres
  refine call_L C0 (run_V C0 (rest := [.int (1 : Int32), .ref (q 18)]) (kX1_fitted l dC dI q cI cJ cZ nr wd sg lw hg fr to sn pl kd tg sa sb bn mt pa (0 : Int32) (0 : Int32) (-1 : Int32) (vp_updL (flL 6 (0 : Int64) rv) (Int32.toNatClampNeg (0 : Int32)) u2) ro tk ov sh tu rk cb rlo rhi rl rg tf kn tl th tv  (1 : Int32) ((x2).toInt64) u3 hu3 _) (cwV 2 hts gX3_follow_X1_fitted rfl rfl rfl (by decide +kernel) ⟨by decide, by decide⟩) hP hD (ci := 1) (q0 := 1) rfl rfl rfl hl.1 rfl (Nat.le_of_ble_eq_true rfl) dX3_follow_51) hD hS (fun H locs hP hD hS => ?_)
  refine va_last (D := (dC, dI)) (cl := vwCl) hx hb hK hP hD hS 18 1 rfl rfl (show ¬ ((1 : Int32) < 0 ∨ 6 ≤ Int32.toNatClampNeg (1 : Int32)) by decide) dX3_follow_54 (fun H locs hP hD hS => ?_)
  have hP : va_P (dC, dI) vwCl (wC q cI cJ cZ nr wd sg lw hg fr to sn pl kd tg sa sb bn mt pa (0 : Int32) (0 : Int32) (-1 : Int32) (vp_updL (vp_updL (flL 6 (0 : Int64) rv) (Int32.toNatClampNeg (0 : Int32)) u2) (Int32.toNatClampNeg (1 : Int32)) u3) ro tk ov sh tu rk cb rlo rhi rl rg tf kn tl th tv) H := hP
  have hD : va_D A (wC q cI cJ cZ nr wd sg lw hg fr to sn pl kd tg sa sb bn mt pa (0 : Int32) (0 : Int32) (-1 : Int32) (vp_updL (vp_updL (flL 6 (0 : Int64) rv) (Int32.toNatClampNeg (0 : Int32)) u2) (Int32.toNatClampNeg (1 : Int32)) u3) ro tk ov sh tu rk cb rlo rhi rl rg tf kn tl th tv) := hD
  refine lv_iconst (v := (0 : Int32)) hx hb dX3_follow_55 (by decide) ?_
  refine lv_istore_n (lv' := [(3, .int (0 : Int32)), (0, .ref (q 17)), (1, .int x1), (2, .int x2)]) hx hb dX3_follow_56 rfl hl (by decide) rfl (fun ls hl => ?_)
  exact zX3_follow_L57 C0  FU (0 : Int32) (0 : Int32) (-1 : Int32) (vp_updL (vp_updL (flL 6 (0 : Int64) rv) (Int32.toNatClampNeg (0 : Int32)) u2) (Int32.toNatClampNeg (1 : Int32)) u3) (0 : Int32) _ _ ls hP hD hS (lv_sub hl [1, 0] rfl) hres
/-! ### SumsOver$Steps.endOf(I)I -/
set_option maxRecDepth 20000 in
theorem hwX4_endOf_RX4 : ∀ w ∈ u_ws RX4 TX4 9, w ∈ wsX4_endOf := by decide +kernel
theorem mwX4_endOf_0 : (.fieldLink RX4 34 "SumsOver$Steps" "size" "I" : Cond) ∈ wsX4_endOf := by decide +kernel
theorem mwX4_endOf_1 : (.fieldLink RX4 9 "SumsOver$Steps" "kinds" "[I" : Cond) ∈ wsX4_endOf := by decide +kernel
def rmX4_endOf : Room := { frames := 0, cells := 0, slots := 0, locals := 0 }
def iX4_endOf_L4 (p : Program) (l : Launch) (e : Env) (s : State) (m : MethodId) (args : Array Value) (below : List Frame) (meth : Method) (c : Code) (A : Nat → Prop) (dC : Nat → ClassId) (dI : Nat → Nat → Nat) (q : Nat → Nat) (cI cJ cZ : ClassId) (nr : Int32) (wd : Nat → Int32) (sg : Nat → Int32) (lw : Nat → Int64) (hg : Nat → Int64) (fr : Nat → Int32) (to : Nat → Int32) (sn : Int32) (pl : Int32) (kd : Nat → Int32) (tg : Nat → Int32) (sa : Nat → Int32) (sb : Nat → Int32) (bn : Nat → Int32) (mt : Nat → Int32) (pa : Nat → Int32) (ob : Int32) (tb : Int32) (fo : Int32) (rv : Nat → Int64) (ro : Int32) (tk : Int32) (ov : Nat → Int32) (sh : Nat → Int32) (tu : Nat → Int32) (rk : Int32) (cb : Int32) (rlo : Int64) (rhi : Int64) (rl : Nat → Int64) (rg : Nat → Int64) (tf : Int32) (kn : Int32) (tl : Nat → Int64) (th : Nat → Int64) (tv : Nat → Int64)  (RES : Int32) (k : (Int32) → Option (Int32)) : Prop := ∀ (x2 : Int32) (H : Heap) (locs : List Loc) (ls : Array Slot), va_P (dC, dI) vwCl (wC q cI cJ cZ nr wd sg lw hg fr to sn pl kd tg sa sb bn mt pa ob tb fo rv ro tk ov sh tu rk cb rlo rhi rl rg tf kn tl th tv) H → va_D A (wC q cI cJ cZ nr wd sg lw hg fr to sn pl kd tg sa sb bn mt pa ob tb fo rv ro tk ov sh tu rk cb rlo rhi rl rg tf kn tl th tv) → va_S A s.heap H locs → lv_has ls 3 [(0, .ref (q 9)), (2, .int x2)] → k x2 = some RES → W p l e rmX4_endOf s m args below meth c H locs 0 0 (QI below args s A (dC, dI) (ty3 cI cJ cZ) RES (wC q cI cJ cZ nr wd sg lw hg fr to sn pl kd tg sa sb bn mt pa ob tb fo rv ro tk ov sh tu rk cb rlo rhi rl rg tf kn tl th tv)) (F0 m 4 ls [])
set_option maxHeartbeats 4000000 in
set_option maxRecDepth 100000 in
theorem zX4_endOf_L4 {p : Program} {l : Launch} {e : Env} {s : State} {m : MethodId} {args : Array Value} {below : List Frame} {meth : Method} {c : Code} {A : Nat → Prop} {dC : Nat → ClassId} {dI : Nat → Nat → Nat} {q : Nat → Nat} {cI cJ cZ : ClassId} {nr : Int32} {wd : Nat → Int32} {sg : Nat → Int32} {lw : Nat → Int64} {hg : Nat → Int64} {fr : Nat → Int32} {to : Nat → Int32} {sn : Int32} {pl : Int32} {kd : Nat → Int32} {tg : Nat → Int32} {sa : Nat → Int32} {sb : Nat → Int32} {bn : Nat → Int32} {mt : Nat → Int32} {pa : Nat → Int32} {ob : Int32} {tb : Int32} {fo : Int32} {rv : Nat → Int64} {ro : Int32} {tk : Int32} {ov : Nat → Int32} {sh : Nat → Int32} {tu : Nat → Int32} {rk : Int32} {cb : Int32} {rlo : Int64} {rhi : Int64} {rl : Nat → Int64} {rg : Nat → Int64} {tf : Int32} {kn : Int32} {tl : Nat → Int64} {th : Nat → Int64} {tv : Nat → Int64}  (C0 : Cx p s m args meth c cX4_endOf 3 (some .int) RX4 wsX4_endOf A (dC, dI) (ty3 cI cJ cZ)) {RES : Int32}  : ∀ n : Nat, iX4_endOf_L4 p l e s m args below meth c A dC dI q cI cJ cZ nr wd sg lw hg fr to sn pl kd tg sa sb bn mt pa ob tb fo rv ro tk ov sh tu rk cb rlo rhi rl rg tf kn tl th tv RES (mX4_endOf_L4 sn kd n) := by
  have C1 := C0
  obtain ⟨hx, hb, hr, hml, hown, hts, hlocks, hN, hK, hA⟩ := C1
  intro n
  induction n with
  | zero =>
    intro x2 H locs ls hP hD hS hl hres
    exact mi_0 hres
  | succ n ih =>
    intro x2 H locs ls hP hD hS hl hres
    rw [mX4_endOf_L4] at hres
    refine lv_iload_n hx hb dX4_endOf_4 rfl (lv_at hl 1 rfl) ?_
    refine lv_aload_n hx hb dX4_endOf_5 rfl (lv_at hl 0 rfl) ?_
    refine va_get (D := (dC, dI)) (ci := 4) (v := .int sn) (C := RX4) (T := TX4) (N := 9) hx hb hts hwX4_endOf_RX4 hown hK hP 9 rfl rfl 6 (by decide) (hts _ mwX4_endOf_0) (fun _ h9 => h9) rfl dX4_endOf_6 ?_
    refine lv_icmp_ge (tgt := 31) hx hb dX4_endOf_9 (by decide) (fun c_1 => ?_) (fun c_1 => ?_)
    · replace hres := mi_p c_1 hres
      refine lv_aload_n hx hb dX4_endOf_31 rfl (lv_at hl 0 rfl) ?_
      refine va_get (D := (dC, dI)) (ci := 4) (v := .int sn) (C := RX4) (T := TX4) (N := 9) hx hb hts hwX4_endOf_RX4 hown hK hP 9 rfl rfl 6 (by decide) (hts _ mwX4_endOf_0) (fun _ h9 => h9) rfl dX4_endOf_32 ?_
      obtain rfl := Option.some.inj hres
      exact ret_I (r := sn) C0 rfl hP hD hS dX4_endOf_35
    · replace hres := mi_n c_1 hres
      refine lv_aload_n hx hb dX4_endOf_12 rfl (lv_at hl 0 rfl) ?_
      refine va_get (D := (dC, dI)) (ci := 4) (v := .ref (q 10)) (C := RX4) (T := TX4) (N := 9) hx hb hts hwX4_endOf_RX4 hown hK hP 9 rfl rfl 0 (by decide) (hts _ mwX4_endOf_1) (fun _ h9 => h9) rfl dX4_endOf_13 ?_
      refine lv_iload_n hx hb dX4_endOf_16 rfl (lv_at hl 1 rfl) ?_
      obtain ⟨g_2, hres⟩ := mi_g hres
      refine va_iald (D := (dC, dI)) (cl := vwCl) hx hb hK hP 10 0 rfl rfl g_2 dX4_endOf_17 ?_
      refine lv_bipush (v := (9 : Int32)) hx hb dX4_endOf_18 (by decide) ?_
      refine lv_icmp_ne (tgt := 25) hx hb dX4_endOf_20 (by decide) (fun c_3 => ?_) (fun c_3 => ?_)
      · replace hres := mi_n c_3 hres
        refine lv_iinc (v := x2 + (1 : Int32)) (lv' := [(2, .int (x2 + (1 : Int32))), (0, .ref (q 9))]) hx hb dX4_endOf_25 hl (k := 1) rfl rfl (by decide) rfl (fun ls hl => ?_)
        refine lv_goto (tgt := 4) hx hb dX4_endOf_28 (by decide) ?_
        exact ih (x2 + (1 : Int32)) _ _ ls hP hD hS (lv_sub hl [1, 0] rfl) hres
      · replace hres := mi_p c_3 hres
        refine lv_iload_n hx hb dX4_endOf_23 rfl (lv_at hl 1 rfl) ?_
        obtain rfl := Option.some.inj hres
        exact ret_I (r := x2) C0 rfl hP hD hS dX4_endOf_24
set_option maxHeartbeats 4000000 in
set_option maxRecDepth 100000 in
theorem kX4_endOf (l : Launch) (dC : Nat → ClassId) (dI : Nat → Nat → Nat) (q : Nat → Nat) (cI cJ cZ : ClassId) (nr : Int32) (wd : Nat → Int32) (sg : Nat → Int32) (lw : Nat → Int64) (hg : Nat → Int64) (fr : Nat → Int32) (to : Nat → Int32) (sn : Int32) (pl : Int32) (kd : Nat → Int32) (tg : Nat → Int32) (sa : Nat → Int32) (sb : Nat → Int32) (bn : Nat → Int32) (mt : Nat → Int32) (pa : Nat → Int32) (ob : Int32) (tb : Int32) (fo : Int32) (rv : Nat → Int64) (ro : Int32) (tk : Int32) (ov : Nat → Int32) (sh : Nat → Int32) (tu : Nat → Int32) (rk : Int32) (cb : Int32) (rlo : Int64) (rhi : Int64) (rl : Nat → Int64) (rg : Nat → Int64) (tf : Int32) (kn : Int32) (tl : Nat → Int64) (th : Nat → Int64) (tv : Nat → Int64) (x1 : Int32) (RES : Int32) (hres : mX4_endOf sn kd x1 = some RES) : CtI l yX4_endOf wsX4_endOf rmX4_endOf (dC, dI) (ty3 cI cJ cZ) (wC q cI cJ cZ nr wd sg lw hg fr to sn pl kd tg sa sb bn mt pa ob tb fo rv ro tk ov sh tu rk cb rlo rhi rl rg tf kn tl th tv) [.ref (q 9), .int x1] RES (wC q cI cJ cZ nr wd sg lw hg fr to sn pl kd tg sa sb bn mt pa ob tb fo rv ro tk ov sh tu rk cb rlo rhi rl rg tf kn tl th tv) := by
  intro sz
  refine ct_entry (cc := cX4_endOf) (maxL := 3) (ret := some .int) (own := RX4) (by decide) rfl rfl (Nat.le_of_ble_eq_true rfl) (ll := [(0, .ref (q 9)), (1, .int x1)]) rfl ?_
  intro p e s m args below meth c hsz C0 _ hP hD ls hl
  have C1 := C0
  obtain ⟨hx, hb, hr, hml, hown, hts, hlocks, hN, hK, hA⟩ := C1
  have hS : va_S (va_A (wC q cI cJ cZ nr wd sg lw hg fr to sn pl kd tg sa sb bn mt pa ob tb fo rv ro tk ov sh tu rk cb rlo rhi rl rg tf kn tl th tv) sz) s.heap s.heap [] := va_S.rf
  generalize va_A (wC q cI cJ cZ nr wd sg lw hg fr to sn pl kd tg sa sb bn mt pa ob tb fo rv ro tk ov sh tu rk cb rlo rhi rl rg tf kn tl th tv) sz = A at C0 hD hA hS ⊢
  show W p l e rmX4_endOf s m args below meth c s.heap [] 0 0 (QI below args s A (dC, dI) (ty3 cI cJ cZ) RES (wC q cI cJ cZ nr wd sg lw hg fr to sn pl kd tg sa sb bn mt pa ob tb fo rv ro tk ov sh tu rk cb rlo rhi rl rg tf kn tl th tv)) (F0 m 0 ls [])
  unfold mX4_endOf at hres
  refine lv_iload_n hx hb dX4_endOf_0 rfl (lv_at hl 1 rfl) ?_
  refine lv_iconst (v := (1 : Int32)) hx hb dX4_endOf_1 (by decide) ?_
  refine lv_iadd hx hb dX4_endOf_2 ?_
  refine lv_istore_n (lv' := [(2, .int (x1 + (1 : Int32))), (0, .ref (q 9)), (1, .int x1)]) hx hb dX4_endOf_3 rfl hl (by decide) rfl (fun ls hl => ?_)
  exact zX4_endOf_L4 C0  FU (x1 + (1 : Int32)) _ _ ls hP hD hS (lv_sub hl [1, 0] rfl) hres
/-! ### SumsOver$Steps.trace(II)V -/
set_option maxRecDepth 20000 in
theorem hwX4_trace_RX4 : ∀ w ∈ u_ws RX4 TX4 9, w ∈ wsX4_trace := by decide +kernel
theorem mwX4_trace_0 : (.fieldLink RX4 51 "SumsOver$Steps" "pathLength" "I" : Cond) ∈ wsX4_trace := by decide +kernel
theorem mwX4_trace_1 : (.fieldLink RX4 31 "SumsOver$Steps" "path" "[I" : Cond) ∈ wsX4_trace := by decide +kernel
def rmX4_trace : Room := { frames := 0, cells := 0, slots := 0, locals := 0 }
def iX4_trace_L2 (p : Program) (l : Launch) (e : Env) (s : State) (m : MethodId) (args : Array Value) (below : List Frame) (meth : Method) (c : Code) (A : Nat → Prop) (dC : Nat → ClassId) (dI : Nat → Nat → Nat) (q : Nat → Nat) (cI cJ cZ : ClassId) (nr : Int32) (wd : Nat → Int32) (sg : Nat → Int32) (lw : Nat → Int64) (hg : Nat → Int64) (fr : Nat → Int32) (to : Nat → Int32) (sn : Int32) (kd : Nat → Int32) (tg : Nat → Int32) (sa : Nat → Int32) (sb : Nat → Int32) (bn : Nat → Int32) (mt : Nat → Int32) (ob : Int32) (tb : Int32) (fo : Int32) (rv : Nat → Int64) (ro : Int32) (tk : Int32) (ov : Nat → Int32) (sh : Nat → Int32) (tu : Nat → Int32) (rk : Int32) (cb : Int32) (rlo : Int64) (rhi : Int64) (rl : Nat → Int64) (rg : Nat → Int64) (tf : Int32) (kn : Int32) (tl : Nat → Int64) (th : Nat → Int64) (tv : Nat → Int64)  (RES : (Int32) × (Nat → Int32)) (k : (Int32) → (Nat → Int32) → (Int32) → (Int32) → Option ((Int32) × (Nat → Int32))) : Prop := ∀ (pl : Int32) (pa : Nat → Int32) (x2 : Int32) (x3 : Int32) (H : Heap) (locs : List Loc) (ls : Array Slot), va_P (dC, dI) vwCl (wC q cI cJ cZ nr wd sg lw hg fr to sn pl kd tg sa sb bn mt pa ob tb fo rv ro tk ov sh tu rk cb rlo rhi rl rg tf kn tl th tv) H → va_D A (wC q cI cJ cZ nr wd sg lw hg fr to sn pl kd tg sa sb bn mt pa ob tb fo rv ro tk ov sh tu rk cb rlo rhi rl rg tf kn tl th tv) → va_S A s.heap H locs → lv_has ls 4 [(0, .ref (q 9)), (2, .int x2), (3, .int x3)] → k pl pa x2 x3 = some RES → W p l e rmX4_trace s m args below meth c H locs 0 0 (QV below args s A (dC, dI) (ty3 cI cJ cZ) (wC q cI cJ cZ nr wd sg lw hg fr to sn RES.1 kd tg sa sb bn mt RES.2 ob tb fo rv ro tk ov sh tu rk cb rlo rhi rl rg tf kn tl th tv)) (F0 m 2 ls [])
set_option maxHeartbeats 4000000 in
set_option maxRecDepth 100000 in
theorem zX4_trace_L2 {p : Program} {l : Launch} {e : Env} {s : State} {m : MethodId} {args : Array Value} {below : List Frame} {meth : Method} {c : Code} {A : Nat → Prop} {dC : Nat → ClassId} {dI : Nat → Nat → Nat} {q : Nat → Nat} {cI cJ cZ : ClassId} {nr : Int32} {wd : Nat → Int32} {sg : Nat → Int32} {lw : Nat → Int64} {hg : Nat → Int64} {fr : Nat → Int32} {to : Nat → Int32} {sn : Int32} {kd : Nat → Int32} {tg : Nat → Int32} {sa : Nat → Int32} {sb : Nat → Int32} {bn : Nat → Int32} {mt : Nat → Int32} {ob : Int32} {tb : Int32} {fo : Int32} {rv : Nat → Int64} {ro : Int32} {tk : Int32} {ov : Nat → Int32} {sh : Nat → Int32} {tu : Nat → Int32} {rk : Int32} {cb : Int32} {rlo : Int64} {rhi : Int64} {rl : Nat → Int64} {rg : Nat → Int64} {tf : Int32} {kn : Int32} {tl : Nat → Int64} {th : Nat → Int64} {tv : Nat → Int64}  (C0 : Cx p s m args meth c cX4_trace 4 none RX4 wsX4_trace A (dC, dI) (ty3 cI cJ cZ)) {RES : (Int32) × (Nat → Int32)}  : ∀ n : Nat, iX4_trace_L2 p l e s m args below meth c A dC dI q cI cJ cZ nr wd sg lw hg fr to sn kd tg sa sb bn mt ob tb fo rv ro tk ov sh tu rk cb rlo rhi rl rg tf kn tl th tv RES (mX4_trace_L2  n) := by
  have C1 := C0
  obtain ⟨hx, hb, hr, hml, hown, hts, hlocks, hN, hK, hA⟩ := C1
  intro n
  induction n with
  | zero =>
    intro pl pa x2 x3 H locs ls hP hD hS hl hres
    exact mi_0 hres
  | succ n ih =>
    intro pl pa x2 x3 H locs ls hP hD hS hl hres
    rw [mX4_trace_L2] at hres
    refine lv_iload_n hx hb dX4_trace_2 rfl (lv_at hl 2 rfl) ?_
    refine lv_iload_n hx hb dX4_trace_3 rfl (lv_at hl 1 rfl) ?_
    refine lv_icmp_ge (tgt := 45) hx hb dX4_trace_4 (by decide) (fun c_1 => ?_) (fun c_1 => ?_)
    · replace hres := mi_p c_1 hres
      obtain rfl := Option.some.inj hres
      exact ret_V C0 hP hD hS dX4_trace_45
    · replace hres := mi_n c_1 hres
      refine lv_aload_n hx hb dX4_trace_7 rfl (lv_at hl 0 rfl) ?_
      refine va_get (D := (dC, dI)) (ci := 4) (v := .int pl) (C := RX4) (T := TX4) (N := 9) hx hb hts hwX4_trace_RX4 hown hK hP 9 rfl rfl 8 (by decide) (hts _ mwX4_trace_0) (fun _ h9 => h9) rfl dX4_trace_8 ?_
      refine lv_aload_n hx hb dX4_trace_11 rfl (lv_at hl 0 rfl) ?_
      refine va_get (D := (dC, dI)) (ci := 4) (v := .ref (q 16)) (C := RX4) (T := TX4) (N := 9) hx hb hts hwX4_trace_RX4 hown hK hP 9 rfl rfl 7 (by decide) (hts _ mwX4_trace_1) (fun _ h9 => h9) rfl dX4_trace_12 ?_
      refine va_alen (D := (dC, dI)) (cl := vwCl) hx hb hK hP 16 0 rfl rfl (v := (288 : Int32)) rfl dX4_trace_15 ?_
      refine lv_icmp_ge (tgt := 45) hx hb dX4_trace_16 (by decide) (fun c_2 => ?_) (fun c_2 => ?_)
      · replace hres := mi_p c_2 hres
        obtain rfl := Option.some.inj hres
        exact ret_V C0 hP hD hS dX4_trace_45
      · replace hres := mi_n c_2 hres
        refine lv_aload_n hx hb dX4_trace_19 rfl (lv_at hl 0 rfl) ?_
        refine va_get (D := (dC, dI)) (ci := 4) (v := .ref (q 16)) (C := RX4) (T := TX4) (N := 9) hx hb hts hwX4_trace_RX4 hown hK hP 9 rfl rfl 7 (by decide) (hts _ mwX4_trace_1) (fun _ h9 => h9) rfl dX4_trace_20 ?_
        refine lv_aload_n hx hb dX4_trace_23 rfl (lv_at hl 0 rfl) ?_
        refine va_get (D := (dC, dI)) (ci := 4) (v := .int pl) (C := RX4) (T := TX4) (N := 9) hx hb hts hwX4_trace_RX4 hown hK hP 9 rfl rfl 8 (by decide) (hts _ mwX4_trace_0) (fun _ h9 => h9) rfl dX4_trace_24 ?_
        refine lv_iload_n hx hb dX4_trace_27 rfl (lv_at hl 2 rfl) ?_
        obtain ⟨g_3, hres⟩ := mi_g hres
        refine va_iast (D := (dC, dI)) (cl := vwCl) hx hb hK hP hD hS 16 0 rfl rfl g_3 dX4_trace_28 (fun H locs hP hD hS => ?_)
        have hP : va_P (dC, dI) vwCl (wC q cI cJ cZ nr wd sg lw hg fr to sn pl kd tg sa sb bn mt (upd pa (Int32.toNatClampNeg pl) x3) ob tb fo rv ro tk ov sh tu rk cb rlo rhi rl rg tf kn tl th tv) H := hP
        have hD : va_D A (wC q cI cJ cZ nr wd sg lw hg fr to sn pl kd tg sa sb bn mt (upd pa (Int32.toNatClampNeg pl) x3) ob tb fo rv ro tk ov sh tu rk cb rlo rhi rl rg tf kn tl th tv) := hD
        refine lv_aload_n hx hb dX4_trace_29 rfl (lv_at hl 0 rfl) ?_
        refine lv_dup hx hb dX4_trace_30 rfl ?_
        refine va_get (D := (dC, dI)) (ci := 4) (v := .int pl) (C := RX4) (T := TX4) (N := 9) hx hb hts hwX4_trace_RX4 hown hK hP 9 rfl rfl 8 (by decide) (hts _ mwX4_trace_0) (fun _ h9 => h9) rfl dX4_trace_31 ?_
        refine lv_iconst (v := (1 : Int32)) hx hb dX4_trace_34 (by decide) ?_
        refine lv_iadd hx hb dX4_trace_35 ?_
        refine va_put (D := (dC, dI)) (ci := 4) (v := .int (pl + (1 : Int32))) (ty := .int) (C := RX4) (T := TX4) (N := 9) hx hb hts hwX4_trace_RX4 tyX4 tyX4_ok nmX4 hown hK hP hD hS 9 rfl rfl 8 (by decide) (hts _ mwX4_trace_0) (fun _ h9 => h9) rfl (by decide +kernel) rfl rfl (Nat.le_of_ble_eq_true rfl) dX4_trace_36 (fun H locs hP hD hS => ?_)
        have hP : va_P (dC, dI) vwCl (wC q cI cJ cZ nr wd sg lw hg fr to sn (pl + (1 : Int32)) kd tg sa sb bn mt (upd pa (Int32.toNatClampNeg pl) x3) ob tb fo rv ro tk ov sh tu rk cb rlo rhi rl rg tf kn tl th tv) H := hP
        have hD : va_D A (wC q cI cJ cZ nr wd sg lw hg fr to sn (pl + (1 : Int32)) kd tg sa sb bn mt (upd pa (Int32.toNatClampNeg pl) x3) ob tb fo rv ro tk ov sh tu rk cb rlo rhi rl rg tf kn tl th tv) := hD
        refine lv_iinc (v := x3 + (1 : Int32)) (lv' := [(3, .int (x3 + (1 : Int32))), (0, .ref (q 9)), (2, .int x2)]) hx hb dX4_trace_39 hl (k := 2) rfl rfl (by decide) rfl (fun ls hl => ?_)
        refine lv_goto (tgt := 2) hx hb dX4_trace_42 (by decide) ?_
        exact ih (pl + (1 : Int32)) (upd pa (Int32.toNatClampNeg pl) x3) x2 (x3 + (1 : Int32)) _ _ ls hP hD hS (lv_sub hl [1, 2, 0] rfl) hres
set_option maxHeartbeats 4000000 in
set_option maxRecDepth 100000 in
theorem kX4_trace (l : Launch) (dC : Nat → ClassId) (dI : Nat → Nat → Nat) (q : Nat → Nat) (cI cJ cZ : ClassId) (nr : Int32) (wd : Nat → Int32) (sg : Nat → Int32) (lw : Nat → Int64) (hg : Nat → Int64) (fr : Nat → Int32) (to : Nat → Int32) (sn : Int32) (pl : Int32) (kd : Nat → Int32) (tg : Nat → Int32) (sa : Nat → Int32) (sb : Nat → Int32) (bn : Nat → Int32) (mt : Nat → Int32) (pa : Nat → Int32) (ob : Int32) (tb : Int32) (fo : Int32) (rv : Nat → Int64) (ro : Int32) (tk : Int32) (ov : Nat → Int32) (sh : Nat → Int32) (tu : Nat → Int32) (rk : Int32) (cb : Int32) (rlo : Int64) (rhi : Int64) (rl : Nat → Int64) (rg : Nat → Int64) (tf : Int32) (kn : Int32) (tl : Nat → Int64) (th : Nat → Int64) (tv : Nat → Int64) (x1 : Int32) (x2 : Int32) (RES : (Int32) × (Nat → Int32)) (hres : mX4_trace pl pa x1 x2 = some RES) : CtV l yX4_trace wsX4_trace rmX4_trace (dC, dI) (ty3 cI cJ cZ) (wC q cI cJ cZ nr wd sg lw hg fr to sn pl kd tg sa sb bn mt pa ob tb fo rv ro tk ov sh tu rk cb rlo rhi rl rg tf kn tl th tv) [.ref (q 9), .int x1, .int x2] (wC q cI cJ cZ nr wd sg lw hg fr to sn RES.1 kd tg sa sb bn mt RES.2 ob tb fo rv ro tk ov sh tu rk cb rlo rhi rl rg tf kn tl th tv) := by
  intro sz
  refine ct_entry (cc := cX4_trace) (maxL := 4) (ret := none) (own := RX4) (by decide) rfl rfl (Nat.le_of_ble_eq_true rfl) (ll := [(0, .ref (q 9)), (1, .int x1), (2, .int x2)]) rfl ?_
  intro p e s m args below meth c hsz C0 _ hP hD ls hl
  have C1 := C0
  obtain ⟨hx, hb, hr, hml, hown, hts, hlocks, hN, hK, hA⟩ := C1
  have hS : va_S (va_A (wC q cI cJ cZ nr wd sg lw hg fr to sn pl kd tg sa sb bn mt pa ob tb fo rv ro tk ov sh tu rk cb rlo rhi rl rg tf kn tl th tv) sz) s.heap s.heap [] := va_S.rf
  generalize va_A (wC q cI cJ cZ nr wd sg lw hg fr to sn pl kd tg sa sb bn mt pa ob tb fo rv ro tk ov sh tu rk cb rlo rhi rl rg tf kn tl th tv) sz = A at C0 hD hA hS ⊢
  show W p l e rmX4_trace s m args below meth c s.heap [] 0 0 (QV below args s A (dC, dI) (ty3 cI cJ cZ) (wC q cI cJ cZ nr wd sg lw hg fr to sn RES.1 kd tg sa sb bn mt RES.2 ob tb fo rv ro tk ov sh tu rk cb rlo rhi rl rg tf kn tl th tv)) (F0 m 0 ls [])
  unfold mX4_trace at hres
  refine lv_iload_n hx hb dX4_trace_0 rfl (lv_at hl 1 rfl) ?_
  refine lv_istore_n (lv' := [(3, .int x1), (0, .ref (q 9)), (1, .int x1), (2, .int x2)]) hx hb dX4_trace_1 rfl hl (by decide) rfl (fun ls hl => ?_)
  exact zX4_trace_L2 C0  FU pl pa x2 x1 _ _ ls hP hD hS (lv_sub hl [1, 3, 0] rfl) hres
/-! ### SumsOver$Steps.retrace()V -/
set_option maxRecDepth 20000 in
theorem hwX4_retrace_RX4 : ∀ w ∈ u_ws RX4 TX4 9, w ∈ wsX4_retrace := by decide +kernel
theorem mwX4_retrace_0 : (.fieldLink RX4 51 "SumsOver$Steps" "pathLength" "I" : Cond) ∈ wsX4_retrace := by decide +kernel
theorem mwX4_retrace_1 : (.fieldLink RX4 34 "SumsOver$Steps" "size" "I" : Cond) ∈ wsX4_retrace := by decide +kernel
theorem mwX4_retrace_2 : (.fieldLink RX4 9 "SumsOver$Steps" "kinds" "[I" : Cond) ∈ wsX4_retrace := by decide +kernel
theorem mwX4_retrace_3 : (.fieldLink RX4 21 "SumsOver$Steps" "bs" "[I" : Cond) ∈ wsX4_retrace := by decide +kernel
def rmX4_retrace : Room := { frames := 1, cells := 0, slots := 0, locals := 23 }
def iX4_retrace_L36 (p : Program) (l : Launch) (e : Env) (s : State) (m : MethodId) (args : Array Value) (below : List Frame) (meth : Method) (c : Code) (A : Nat → Prop) (dC : Nat → ClassId) (dI : Nat → Nat → Nat) (q : Nat → Nat) (cI cJ cZ : ClassId) (nr : Int32) (wd : Nat → Int32) (sg : Nat → Int32) (lw : Nat → Int64) (hg : Nat → Int64) (fr : Nat → Int32) (to : Nat → Int32) (sn : Int32) (kd : Nat → Int32) (tg : Nat → Int32) (sa : Nat → Int32) (sb : Nat → Int32) (bn : Nat → Int32) (mt : Nat → Int32) (ob : Int32) (tb : Int32) (fo : Int32) (rv : Nat → Int64) (ro : Int32) (tk : Int32) (ov : Nat → Int32) (sh : Nat → Int32) (tu : Nat → Int32) (rk : Int32) (cb : Int32) (rlo : Int64) (rhi : Int64) (rl : Nat → Int64) (rg : Nat → Int64) (tf : Int32) (kn : Int32) (tl : Nat → Int64) (th : Nat → Int64) (tv : Nat → Int64)  (RES : (Int32) × (Nat → Int32)) (k : (Int32) → (Nat → Int32) → (Int32) → (Int32) → (Int32) → Option ((Int32) × (Nat → Int32))) : Prop := ∀ (pl : Int32) (pa : Nat → Int32) (x1 : Int32) (x2 : Int32) (x3 : Int32) (H : Heap) (locs : List Loc) (ls : Array Slot), va_P (dC, dI) vwCl (wC q cI cJ cZ nr wd sg lw hg fr to sn pl kd tg sa sb bn mt pa ob tb fo rv ro tk ov sh tu rk cb rlo rhi rl rg tf kn tl th tv) H → va_D A (wC q cI cJ cZ nr wd sg lw hg fr to sn pl kd tg sa sb bn mt pa ob tb fo rv ro tk ov sh tu rk cb rlo rhi rl rg tf kn tl th tv) → va_S A s.heap H locs → lv_has ls 4 [(0, .ref (q 9)), (1, .int x1), (2, .int x2), (3, .int x3)] → k pl pa x1 x2 x3 = some RES → W p l e rmX4_retrace s m args below meth c H locs 0 0 (QV below args s A (dC, dI) (ty3 cI cJ cZ) (wC q cI cJ cZ nr wd sg lw hg fr to sn RES.1 kd tg sa sb bn mt RES.2 ob tb fo rv ro tk ov sh tu rk cb rlo rhi rl rg tf kn tl th tv)) (F0 m 36 ls [])
def iX4_retrace_L9 (p : Program) (l : Launch) (e : Env) (s : State) (m : MethodId) (args : Array Value) (below : List Frame) (meth : Method) (c : Code) (A : Nat → Prop) (dC : Nat → ClassId) (dI : Nat → Nat → Nat) (q : Nat → Nat) (cI cJ cZ : ClassId) (nr : Int32) (wd : Nat → Int32) (sg : Nat → Int32) (lw : Nat → Int64) (hg : Nat → Int64) (fr : Nat → Int32) (to : Nat → Int32) (sn : Int32) (kd : Nat → Int32) (tg : Nat → Int32) (sa : Nat → Int32) (sb : Nat → Int32) (bn : Nat → Int32) (mt : Nat → Int32) (ob : Int32) (tb : Int32) (fo : Int32) (rv : Nat → Int64) (ro : Int32) (tk : Int32) (ov : Nat → Int32) (sh : Nat → Int32) (tu : Nat → Int32) (rk : Int32) (cb : Int32) (rlo : Int64) (rhi : Int64) (rl : Nat → Int64) (rg : Nat → Int64) (tf : Int32) (kn : Int32) (tl : Nat → Int64) (th : Nat → Int64) (tv : Nat → Int64)  (RES : (Int32) × (Nat → Int32)) (k : (Int32) → (Nat → Int32) → (Int32) → (Int32) → Option ((Int32) × (Nat → Int32))) : Prop := ∀ (pl : Int32) (pa : Nat → Int32) (x1 : Int32) (x2 : Int32) (H : Heap) (locs : List Loc) (ls : Array Slot), va_P (dC, dI) vwCl (wC q cI cJ cZ nr wd sg lw hg fr to sn pl kd tg sa sb bn mt pa ob tb fo rv ro tk ov sh tu rk cb rlo rhi rl rg tf kn tl th tv) H → va_D A (wC q cI cJ cZ nr wd sg lw hg fr to sn pl kd tg sa sb bn mt pa ob tb fo rv ro tk ov sh tu rk cb rlo rhi rl rg tf kn tl th tv) → va_S A s.heap H locs → lv_has ls 4 [(0, .ref (q 9)), (1, .int x1), (2, .int x2)] → k pl pa x1 x2 = some RES → W p l e rmX4_retrace s m args below meth c H locs 0 0 (QV below args s A (dC, dI) (ty3 cI cJ cZ) (wC q cI cJ cZ nr wd sg lw hg fr to sn RES.1 kd tg sa sb bn mt RES.2 ob tb fo rv ro tk ov sh tu rk cb rlo rhi rl rg tf kn tl th tv)) (F0 m 9 ls [])
set_option maxHeartbeats 4000000 in
set_option maxRecDepth 100000 in
theorem zX4_retrace_L36 {p : Program} {l : Launch} {e : Env} {s : State} {m : MethodId} {args : Array Value} {below : List Frame} {meth : Method} {c : Code} {A : Nat → Prop} {dC : Nat → ClassId} {dI : Nat → Nat → Nat} {q : Nat → Nat} {cI cJ cZ : ClassId} {nr : Int32} {wd : Nat → Int32} {sg : Nat → Int32} {lw : Nat → Int64} {hg : Nat → Int64} {fr : Nat → Int32} {to : Nat → Int32} {sn : Int32} {kd : Nat → Int32} {tg : Nat → Int32} {sa : Nat → Int32} {sb : Nat → Int32} {bn : Nat → Int32} {mt : Nat → Int32} {ob : Int32} {tb : Int32} {fo : Int32} {rv : Nat → Int64} {ro : Int32} {tk : Int32} {ov : Nat → Int32} {sh : Nat → Int32} {tu : Nat → Int32} {rk : Int32} {cb : Int32} {rlo : Int64} {rhi : Int64} {rl : Nat → Int64} {rg : Nat → Int64} {tf : Int32} {kn : Int32} {tl : Nat → Int64} {th : Nat → Int64} {tv : Nat → Int64}  (C0 : Cx p s m args meth c cX4_retrace 4 none RX4 wsX4_retrace A (dC, dI) (ty3 cI cJ cZ)) {RES : (Int32) × (Nat → Int32)} {k9 : (Int32) → (Nat → Int32) → (Int32) → (Int32) → Option ((Int32) × (Nat → Int32))} (hk9 : iX4_retrace_L9 p l e s m args below meth c A dC dI q cI cJ cZ nr wd sg lw hg fr to sn kd tg sa sb bn mt ob tb fo rv ro tk ov sh tu rk cb rlo rhi rl rg tf kn tl th tv RES k9) : ∀ n : Nat, iX4_retrace_L36 p l e s m args below meth c A dC dI q cI cJ cZ nr wd sg lw hg fr to sn kd tg sa sb bn mt ob tb fo rv ro tk ov sh tu rk cb rlo rhi rl rg tf kn tl th tv RES (mX4_retrace_L36 sn kd sb k9 n) := by
  have C1 := C0
  obtain ⟨hx, hb, hr, hml, hown, hts, hlocks, hN, hK, hA⟩ := C1
  intro n
  induction n with
  | zero =>
    intro pl pa x1 x2 x3 H locs ls hP hD hS hl hres
    exact mi_0 hres
  | succ n ih =>
    intro pl pa x1 x2 x3 H locs ls hP hD hS hl hres
    rw [mX4_retrace_L36] at hres
    refine lv_iload_n hx hb dX4_retrace_36 rfl (lv_at hl 3 rfl) ?_
    refine lv_aload_n hx hb dX4_retrace_37 rfl (lv_at hl 0 rfl) ?_
    refine va_get (D := (dC, dI)) (ci := 4) (v := .ref (q 13)) (C := RX4) (T := TX4) (N := 9) hx hb hts hwX4_retrace_RX4 hown hK hP 9 rfl rfl 3 (by decide) (hts _ mwX4_retrace_3) (fun _ h9 => h9) rfl dX4_retrace_38 ?_
    refine lv_iload_n hx hb dX4_retrace_41 rfl (lv_at hl 2 rfl) ?_
    obtain ⟨g_7, hres⟩ := mi_g hres
    refine va_iald (D := (dC, dI)) (cl := vwCl) hx hb hK hP 13 0 rfl rfl g_7 dX4_retrace_42 ?_
    refine lv_icmp_ge (tgt := 60) hx hb dX4_retrace_43 (by decide) (fun c_8 => ?_) (fun c_8 => ?_)
    · replace hres := mi_p c_8 hres
      refine lv_goto (tgt := 76) hx hb dX4_retrace_60 (by decide) ?_
      refine lv_iinc (v := x2 + (1 : Int32)) (lv' := [(2, .int (x2 + (1 : Int32))), (0, .ref (q 9)), (1, .int x1), (3, .int x3)]) hx hb dX4_retrace_76 hl (k := 2) rfl rfl (by decide) rfl (fun ls hl => ?_)
      refine lv_goto (tgt := 9) hx hb dX4_retrace_79 (by decide) ?_
      exact hk9 pl pa x1 (x2 + (1 : Int32)) _ _ ls hP hD hS (lv_sub hl [1, 2, 0] rfl) hres
    · replace hres := mi_n c_8 hres
      refine lv_aload_n hx hb dX4_retrace_46 rfl (lv_at hl 0 rfl) ?_
      refine lv_iload_n hx hb dX4_retrace_47 rfl (lv_at hl 2 rfl) ?_
      refine lv_iconst (v := (1 : Int32)) hx hb dX4_retrace_48 (by decide) ?_
      refine lv_iadd hx hb dX4_retrace_49 ?_
      refine lv_iload_n hx hb dX4_retrace_50 rfl (lv_at hl 1 rfl) ?_
      obtain ⟨u9, hu9, hres⟩ := mi_b hres
      refine call_V C0 (run_V C0 (rest := []) (kX4_trace l dC dI q cI cJ cZ nr wd sg lw hg fr to sn pl kd tg sa sb bn mt pa ob tb fo rv ro tk ov sh tu rk cb rlo rhi rl rg tf kn tl th tv  (x2 + (1 : Int32)) x1 u9 hu9 _) (cwV 2 hts gX4_retrace_X4_trace rfl rfl rfl (by decide +kernel) ⟨by decide, by decide⟩) hP hD (ci := 4) (q0 := 9) rfl rfl rfl hl.1 rfl (Nat.le_of_ble_eq_true rfl) dX4_retrace_51) hD hS (fun H locs hP hD hS => ?_)
      refine lv_iinc (v := x3 + (1 : Int32)) (lv' := [(3, .int (x3 + (1 : Int32))), (0, .ref (q 9)), (1, .int x1), (2, .int x2)]) hx hb dX4_retrace_54 hl (k := 3) rfl rfl (by decide) rfl (fun ls hl => ?_)
      refine lv_goto (tgt := 36) hx hb dX4_retrace_57 (by decide) ?_
      exact ih u9.1 u9.2 x1 x2 (x3 + (1 : Int32)) _ _ ls hP hD hS (lv_sub hl [1, 2, 3, 0] rfl) hres
set_option maxHeartbeats 4000000 in
set_option maxRecDepth 100000 in
theorem zX4_retrace_L9 {p : Program} {l : Launch} {e : Env} {s : State} {m : MethodId} {args : Array Value} {below : List Frame} {meth : Method} {c : Code} {A : Nat → Prop} {dC : Nat → ClassId} {dI : Nat → Nat → Nat} {q : Nat → Nat} {cI cJ cZ : ClassId} {nr : Int32} {wd : Nat → Int32} {sg : Nat → Int32} {lw : Nat → Int64} {hg : Nat → Int64} {fr : Nat → Int32} {to : Nat → Int32} {sn : Int32} {kd : Nat → Int32} {tg : Nat → Int32} {sa : Nat → Int32} {sb : Nat → Int32} {bn : Nat → Int32} {mt : Nat → Int32} {ob : Int32} {tb : Int32} {fo : Int32} {rv : Nat → Int64} {ro : Int32} {tk : Int32} {ov : Nat → Int32} {sh : Nat → Int32} {tu : Nat → Int32} {rk : Int32} {cb : Int32} {rlo : Int64} {rhi : Int64} {rl : Nat → Int64} {rg : Nat → Int64} {tf : Int32} {kn : Int32} {tl : Nat → Int64} {th : Nat → Int64} {tv : Nat → Int64}  (C0 : Cx p s m args meth c cX4_retrace 4 none RX4 wsX4_retrace A (dC, dI) (ty3 cI cJ cZ)) {RES : (Int32) × (Nat → Int32)}  : ∀ n : Nat, iX4_retrace_L9 p l e s m args below meth c A dC dI q cI cJ cZ nr wd sg lw hg fr to sn kd tg sa sb bn mt ob tb fo rv ro tk ov sh tu rk cb rlo rhi rl rg tf kn tl th tv RES (mX4_retrace_L9 sn kd sb n) := by
  have C1 := C0
  obtain ⟨hx, hb, hr, hml, hown, hts, hlocks, hN, hK, hA⟩ := C1
  intro n
  induction n with
  | zero =>
    intro pl pa x1 x2 H locs ls hP hD hS hl hres
    exact mi_0 hres
  | succ n ih =>
    intro pl pa x1 x2 H locs ls hP hD hS hl hres
    rw [mX4_retrace_L9] at hres
    refine lv_iload_n hx hb dX4_retrace_9 rfl (lv_at hl 2 rfl) ?_
    refine lv_aload_n hx hb dX4_retrace_10 rfl (lv_at hl 0 rfl) ?_
    refine va_get (D := (dC, dI)) (ci := 4) (v := .int sn) (C := RX4) (T := TX4) (N := 9) hx hb hts hwX4_retrace_RX4 hown hK hP 9 rfl rfl 6 (by decide) (hts _ mwX4_retrace_1) (fun _ h9 => h9) rfl dX4_retrace_11 ?_
    refine lv_icmp_ge (tgt := 82) hx hb dX4_retrace_14 (by decide) (fun c_1 => ?_) (fun c_1 => ?_)
    · replace hres := mi_p c_1 hres
      obtain rfl := Option.some.inj hres
      exact ret_V C0 hP hD hS dX4_retrace_82
    · replace hres := mi_n c_1 hres
      refine lv_aload_n hx hb dX4_retrace_17 rfl (lv_at hl 0 rfl) ?_
      refine va_get (D := (dC, dI)) (ci := 4) (v := .ref (q 10)) (C := RX4) (T := TX4) (N := 9) hx hb hts hwX4_retrace_RX4 hown hK hP 9 rfl rfl 0 (by decide) (hts _ mwX4_retrace_2) (fun _ h9 => h9) rfl dX4_retrace_18 ?_
      refine lv_iload_n hx hb dX4_retrace_21 rfl (lv_at hl 2 rfl) ?_
      obtain ⟨g_2, hres⟩ := mi_g hres
      refine va_iald (D := (dC, dI)) (cl := vwCl) hx hb hK hP 10 0 rfl rfl g_2 dX4_retrace_22 ?_
      refine lv_bipush (v := (8 : Int32)) hx hb dX4_retrace_23 (by decide) ?_
      refine lv_icmp_ne (tgt := 63) hx hb dX4_retrace_25 (by decide) (fun c_3 => ?_) (fun c_3 => ?_)
      · replace hres := mi_n c_3 hres
        refine lv_iload_n hx hb dX4_retrace_63 rfl (lv_at hl 2 rfl) ?_
        refine lv_iload_n hx hb dX4_retrace_64 rfl (lv_at hl 1 rfl) ?_
        refine lv_icmp_le (tgt := 76) hx hb dX4_retrace_65 (by decide) (fun c_4 => ?_) (fun c_4 => ?_)
        · replace hres := mi_p c_4 hres
          refine lv_iinc (v := x2 + (1 : Int32)) (lv' := [(2, .int (x2 + (1 : Int32))), (0, .ref (q 9)), (1, .int x1)]) hx hb dX4_retrace_76 hl (k := 2) rfl rfl (by decide) rfl (fun ls hl => ?_)
          refine lv_goto (tgt := 9) hx hb dX4_retrace_79 (by decide) ?_
          exact ih pl pa x1 (x2 + (1 : Int32)) _ _ ls hP hD hS (lv_sub hl [1, 2, 0] rfl) hres
        · replace hres := mi_n c_4 hres
          refine lv_aload_n hx hb dX4_retrace_68 rfl (lv_at hl 0 rfl) ?_
          refine lv_iload_n hx hb dX4_retrace_69 rfl (lv_at hl 2 rfl) ?_
          refine lv_iload_n hx hb dX4_retrace_70 rfl (lv_at hl 2 rfl) ?_
          refine lv_iconst (v := (1 : Int32)) hx hb dX4_retrace_71 (by decide) ?_
          refine lv_iadd hx hb dX4_retrace_72 ?_
          obtain ⟨u5, hu5, hres⟩ := mi_b hres
          refine call_V C0 (run_V C0 (rest := []) (kX4_trace l dC dI q cI cJ cZ nr wd sg lw hg fr to sn pl kd tg sa sb bn mt pa ob tb fo rv ro tk ov sh tu rk cb rlo rhi rl rg tf kn tl th tv  x2 (x2 + (1 : Int32)) u5 hu5 _) (cwV 2 hts gX4_retrace_X4_trace rfl rfl rfl (by decide +kernel) ⟨by decide, by decide⟩) hP hD (ci := 4) (q0 := 9) rfl rfl rfl hl.1 rfl (Nat.le_of_ble_eq_true rfl) dX4_retrace_73) hD hS (fun H locs hP hD hS => ?_)
          refine lv_iinc (v := x2 + (1 : Int32)) (lv' := [(2, .int (x2 + (1 : Int32))), (0, .ref (q 9)), (1, .int x1)]) hx hb dX4_retrace_76 hl (k := 2) rfl rfl (by decide) rfl (fun ls hl => ?_)
          refine lv_goto (tgt := 9) hx hb dX4_retrace_79 (by decide) ?_
          exact ih u5.1 u5.2 x1 (x2 + (1 : Int32)) _ _ ls hP hD hS (lv_sub hl [1, 2, 0] rfl) hres
      · replace hres := mi_p c_3 hres
        refine lv_aload_n hx hb dX4_retrace_28 rfl (lv_at hl 0 rfl) ?_
        refine lv_iload_n hx hb dX4_retrace_29 rfl (lv_at hl 2 rfl) ?_
        obtain ⟨u6, hu6, hres⟩ := mi_b hres
        refine call_I C0 (run_V C0 (rest := []) (kX4_endOf l dC dI q cI cJ cZ nr wd sg lw hg fr to sn pl kd tg sa sb bn mt pa ob tb fo rv ro tk ov sh tu rk cb rlo rhi rl rg tf kn tl th tv  x2 u6 hu6 _) (cwV 1 hts gX4_retrace_X4_endOf rfl rfl rfl (by decide +kernel) ⟨by decide, by decide⟩) hP hD (ci := 4) (q0 := 9) rfl rfl rfl hl.1 rfl (Nat.le_of_ble_eq_true rfl) dX4_retrace_30) hD hS (fun H locs hP hD hS => ?_)
        refine lv_istore_n (lv' := [(1, .int u6), (0, .ref (q 9)), (2, .int x2)]) hx hb dX4_retrace_33 rfl hl (by decide) rfl (fun ls hl => ?_)
        refine lv_iconst (v := (0 : Int32)) hx hb dX4_retrace_34 (by decide) ?_
        refine lv_istore_n (lv' := [(3, .int (0 : Int32)), (1, .int u6), (0, .ref (q 9)), (2, .int x2)]) hx hb dX4_retrace_35 rfl hl (by decide) rfl (fun ls hl => ?_)
        exact zX4_retrace_L36 C0 ih FU pl pa u6 x2 (0 : Int32) _ _ ls hP hD hS (lv_sub hl [2, 1, 3, 0] rfl) hres
set_option maxHeartbeats 4000000 in
set_option maxRecDepth 100000 in
theorem kX4_retrace (l : Launch) (dC : Nat → ClassId) (dI : Nat → Nat → Nat) (q : Nat → Nat) (cI cJ cZ : ClassId) (nr : Int32) (wd : Nat → Int32) (sg : Nat → Int32) (lw : Nat → Int64) (hg : Nat → Int64) (fr : Nat → Int32) (to : Nat → Int32) (sn : Int32) (pl : Int32) (kd : Nat → Int32) (tg : Nat → Int32) (sa : Nat → Int32) (sb : Nat → Int32) (bn : Nat → Int32) (mt : Nat → Int32) (pa : Nat → Int32) (ob : Int32) (tb : Int32) (fo : Int32) (rv : Nat → Int64) (ro : Int32) (tk : Int32) (ov : Nat → Int32) (sh : Nat → Int32) (tu : Nat → Int32) (rk : Int32) (cb : Int32) (rlo : Int64) (rhi : Int64) (rl : Nat → Int64) (rg : Nat → Int64) (tf : Int32) (kn : Int32) (tl : Nat → Int64) (th : Nat → Int64) (tv : Nat → Int64)  (RES : (Int32) × (Nat → Int32)) (hres : mX4_retrace sn pl kd sb pa = some RES) : CtV l yX4_retrace wsX4_retrace rmX4_retrace (dC, dI) (ty3 cI cJ cZ) (wC q cI cJ cZ nr wd sg lw hg fr to sn pl kd tg sa sb bn mt pa ob tb fo rv ro tk ov sh tu rk cb rlo rhi rl rg tf kn tl th tv) [.ref (q 9)] (wC q cI cJ cZ nr wd sg lw hg fr to sn RES.1 kd tg sa sb bn mt RES.2 ob tb fo rv ro tk ov sh tu rk cb rlo rhi rl rg tf kn tl th tv) := by
  intro sz
  refine ct_entry (cc := cX4_retrace) (maxL := 4) (ret := none) (own := RX4) (by decide) rfl rfl (Nat.le_of_ble_eq_true rfl) (ll := [(0, .ref (q 9))]) rfl ?_
  intro p e s m args below meth c hsz C0 _ hP hD ls hl
  have C1 := C0
  obtain ⟨hx, hb, hr, hml, hown, hts, hlocks, hN, hK, hA⟩ := C1
  have hS : va_S (va_A (wC q cI cJ cZ nr wd sg lw hg fr to sn pl kd tg sa sb bn mt pa ob tb fo rv ro tk ov sh tu rk cb rlo rhi rl rg tf kn tl th tv) sz) s.heap s.heap [] := va_S.rf
  generalize va_A (wC q cI cJ cZ nr wd sg lw hg fr to sn pl kd tg sa sb bn mt pa ob tb fo rv ro tk ov sh tu rk cb rlo rhi rl rg tf kn tl th tv) sz = A at C0 hD hA hS ⊢
  show W p l e rmX4_retrace s m args below meth c s.heap [] 0 0 (QV below args s A (dC, dI) (ty3 cI cJ cZ) (wC q cI cJ cZ nr wd sg lw hg fr to sn RES.1 kd tg sa sb bn mt RES.2 ob tb fo rv ro tk ov sh tu rk cb rlo rhi rl rg tf kn tl th tv)) (F0 m 0 ls [])
  unfold mX4_retrace at hres
  refine lv_aload_n hx hb dX4_retrace_0 rfl (lv_at hl 0 rfl) ?_
  refine lv_iconst (v := (0 : Int32)) hx hb dX4_retrace_1 (by decide) ?_
  refine va_put (D := (dC, dI)) (ci := 4) (v := .int (0 : Int32)) (ty := .int) (C := RX4) (T := TX4) (N := 9) hx hb hts hwX4_retrace_RX4 tyX4 tyX4_ok nmX4 hown hK hP hD hS 9 rfl rfl 8 (by decide) (hts _ mwX4_retrace_0) (fun _ h9 => h9) rfl (by decide +kernel) rfl rfl (Nat.le_of_ble_eq_true rfl) dX4_retrace_2 (fun H locs hP hD hS => ?_)
  have hP : va_P (dC, dI) vwCl (wC q cI cJ cZ nr wd sg lw hg fr to sn (0 : Int32) kd tg sa sb bn mt pa ob tb fo rv ro tk ov sh tu rk cb rlo rhi rl rg tf kn tl th tv) H := hP
  have hD : va_D A (wC q cI cJ cZ nr wd sg lw hg fr to sn (0 : Int32) kd tg sa sb bn mt pa ob tb fo rv ro tk ov sh tu rk cb rlo rhi rl rg tf kn tl th tv) := hD
  refine lv_iconst (v := (-1 : Int32)) hx hb dX4_retrace_5 (by decide) ?_
  refine lv_istore_n (lv' := [(1, .int (-1 : Int32)), (0, .ref (q 9))]) hx hb dX4_retrace_6 rfl hl (by decide) rfl (fun ls hl => ?_)
  refine lv_iconst (v := (0 : Int32)) hx hb dX4_retrace_7 (by decide) ?_
  refine lv_istore_n (lv' := [(2, .int (0 : Int32)), (1, .int (-1 : Int32)), (0, .ref (q 9))]) hx hb dX4_retrace_8 rfl hl (by decide) rfl (fun ls hl => ?_)
  exact zX4_retrace_L9 C0  FU (0 : Int32) pa (-1 : Int32) (0 : Int32) _ _ ls hP hD hS (lv_sub hl [2, 1, 0] rfl) hres
/-! ### SumsOver$Steps.append(IIII)V -/
set_option maxRecDepth 20000 in
theorem hwX4_append_RX4 : ∀ w ∈ u_ws RX4 TX4 9, w ∈ wsX4_append := by decide +kernel
theorem mwX4_append_0 : (.fieldLink RX4 9 "SumsOver$Steps" "kinds" "[I" : Cond) ∈ wsX4_append := by decide +kernel
theorem mwX4_append_1 : (.fieldLink RX4 34 "SumsOver$Steps" "size" "I" : Cond) ∈ wsX4_append := by decide +kernel
theorem mwX4_append_2 : (.fieldLink RX4 15 "SumsOver$Steps" "targets" "[I" : Cond) ∈ wsX4_append := by decide +kernel
theorem mwX4_append_3 : (.initialized RX7 : Cond) ∈ wsX4_append := by decide +kernel
theorem mwX4_append_4 : (.static yX7_hasTarget : Cond) ∈ wsX4_append := by decide +kernel
theorem mwX4_append_5 : (.fieldLink RX4 18 "SumsOver$Steps" "as" "[I" : Cond) ∈ wsX4_append := by decide +kernel
theorem mwX4_append_6 : (.static yX7_readsA : Cond) ∈ wsX4_append := by decide +kernel
theorem mwX4_append_7 : (.fieldLink RX4 21 "SumsOver$Steps" "bs" "[I" : Cond) ∈ wsX4_append := by decide +kernel
theorem mwX4_append_8 : (.fieldLink RX4 24 "SumsOver$Steps" "bIsName" "[Z" : Cond) ∈ wsX4_append := by decide +kernel
theorem mwX4_append_9 : (.static yX7_readsB : Cond) ∈ wsX4_append := by decide +kernel
def rmX4_append : Room := { frames := 2, cells := 0, slots := 0, locals := 46 }
def iX4_append_L30 (p : Program) (l : Launch) (e : Env) (s : State) (m : MethodId) (args : Array Value) (below : List Frame) (meth : Method) (c : Code) (A : Nat → Prop) (dC : Nat → ClassId) (dI : Nat → Nat → Nat) (q : Nat → Nat) (cI cJ cZ : ClassId) (nr : Int32) (wd : Nat → Int32) (sg : Nat → Int32) (lw : Nat → Int64) (hg : Nat → Int64) (fr : Nat → Int32) (to : Nat → Int32) (mt : Nat → Int32) (ob : Int32) (tb : Int32) (fo : Int32) (rv : Nat → Int64) (ro : Int32) (tk : Int32) (ov : Nat → Int32) (sh : Nat → Int32) (tu : Nat → Int32) (rk : Int32) (cb : Int32) (rlo : Int64) (rhi : Int64) (rl : Nat → Int64) (rg : Nat → Int64) (tf : Int32) (kn : Int32) (tl : Nat → Int64) (th : Nat → Int64) (tv : Nat → Int64)  (RES : (Int32) × (Int32) × (Nat → Int32) × (Nat → Int32) × (Nat → Int32) × (Nat → Int32) × (Nat → Int32) × (Nat → Int32)) (k : (Int32) → (Int32) → (Nat → Int32) → (Nat → Int32) → (Nat → Int32) → (Nat → Int32) → (Nat → Int32) → (Nat → Int32) → (Int32) → (Int32) → (Int32) → (Int32) → (Int32) → Option ((Int32) × (Int32) × (Nat → Int32) × (Nat → Int32) × (Nat → Int32) × (Nat → Int32) × (Nat → Int32) × (Nat → Int32))) : Prop := ∀ (sn : Int32) (pl : Int32) (kd : Nat → Int32) (tg : Nat → Int32) (sa : Nat → Int32) (sb : Nat → Int32) (bn : Nat → Int32) (pa : Nat → Int32) (x1 : Int32) (x3 : Int32) (x4 : Int32) (t0 : Int32) (t1 : Int32) (H : Heap) (locs : List Loc) (ls : Array Slot), va_P (dC, dI) vwCl (wC q cI cJ cZ nr wd sg lw hg fr to sn pl kd tg sa sb bn mt pa ob tb fo rv ro tk ov sh tu rk cb rlo rhi rl rg tf kn tl th tv) H → va_D A (wC q cI cJ cZ nr wd sg lw hg fr to sn pl kd tg sa sb bn mt pa ob tb fo rv ro tk ov sh tu rk cb rlo rhi rl rg tf kn tl th tv) → va_S A s.heap H locs → lv_has ls 5 [(0, .ref (q 9)), (1, .int x1), (3, .int x3), (4, .int x4)] → k sn pl kd tg sa sb bn pa x1 x3 x4 t0 t1 = some RES → W p l e rmX4_append s m args below meth c H locs 0 0 (QV below args s A (dC, dI) (ty3 cI cJ cZ) (wC q cI cJ cZ nr wd sg lw hg fr to RES.1 RES.2.1 RES.2.2.1 RES.2.2.2.1 RES.2.2.2.2.1 RES.2.2.2.2.2.1 RES.2.2.2.2.2.2.1 mt RES.2.2.2.2.2.2.2 ob tb fo rv ro tk ov sh tu rk cb rlo rhi rl rg tf kn tl th tv)) (F0 m 30 ls [.int t0, .int t1, .ref (q 11)])
set_option maxHeartbeats 4000000 in
set_option maxRecDepth 100000 in
theorem zX4_append_L30 {p : Program} {l : Launch} {e : Env} {s : State} {m : MethodId} {args : Array Value} {below : List Frame} {meth : Method} {c : Code} {A : Nat → Prop} {dC : Nat → ClassId} {dI : Nat → Nat → Nat} {q : Nat → Nat} {cI cJ cZ : ClassId} {nr : Int32} {wd : Nat → Int32} {sg : Nat → Int32} {lw : Nat → Int64} {hg : Nat → Int64} {fr : Nat → Int32} {to : Nat → Int32} {mt : Nat → Int32} {ob : Int32} {tb : Int32} {fo : Int32} {rv : Nat → Int64} {ro : Int32} {tk : Int32} {ov : Nat → Int32} {sh : Nat → Int32} {tu : Nat → Int32} {rk : Int32} {cb : Int32} {rlo : Int64} {rhi : Int64} {rl : Nat → Int64} {rg : Nat → Int64} {tf : Int32} {kn : Int32} {tl : Nat → Int64} {th : Nat → Int64} {tv : Nat → Int64}  (C0 : Cx p s m args meth c cX4_append 5 none RX4 wsX4_append A (dC, dI) (ty3 cI cJ cZ)) {RES : (Int32) × (Int32) × (Nat → Int32) × (Nat → Int32) × (Nat → Int32) × (Nat → Int32) × (Nat → Int32) × (Nat → Int32)}  : iX4_append_L30 p l e s m args below meth c A dC dI q cI cJ cZ nr wd sg lw hg fr to mt ob tb fo rv ro tk ov sh tu rk cb rlo rhi rl rg tf kn tl th tv RES (mX4_append_L30 ) := by
  have C1 := C0
  obtain ⟨hx, hb, hr, hml, hown, hts, hlocks, hN, hK, hA⟩ := C1
  intro sn pl kd tg sa sb bn pa x1 x3 x4 t0 t1 H locs ls hP hD hS hl hres
  unfold mX4_append_L30 at hres
  obtain ⟨g_4, hres⟩ := mi_g hres
  refine va_iast (D := (dC, dI)) (cl := vwCl) hx hb hK hP hD hS 11 0 rfl rfl g_4 dX4_append_30 (fun H locs hP hD hS => ?_)
  have hP : va_P (dC, dI) vwCl (wC q cI cJ cZ nr wd sg lw hg fr to sn pl kd (upd tg (Int32.toNatClampNeg t1) t0) sa sb bn mt pa ob tb fo rv ro tk ov sh tu rk cb rlo rhi rl rg tf kn tl th tv) H := hP
  have hD : va_D A (wC q cI cJ cZ nr wd sg lw hg fr to sn pl kd (upd tg (Int32.toNatClampNeg t1) t0) sa sb bn mt pa ob tb fo rv ro tk ov sh tu rk cb rlo rhi rl rg tf kn tl th tv) := hD
  refine lv_aload_n hx hb dX4_append_31 rfl (lv_at hl 0 rfl) ?_
  refine va_get (D := (dC, dI)) (ci := 4) (v := .ref (q 12)) (C := RX4) (T := TX4) (N := 9) hx hb hts hwX4_append_RX4 hown hK hP 9 rfl rfl 2 (by decide) (hts _ mwX4_append_5) (fun _ h9 => h9) rfl dX4_append_32 ?_
  refine lv_aload_n hx hb dX4_append_35 rfl (lv_at hl 0 rfl) ?_
  refine va_get (D := (dC, dI)) (ci := 4) (v := .int sn) (C := RX4) (T := TX4) (N := 9) hx hb hts hwX4_append_RX4 hown hK hP 9 rfl rfl 6 (by decide) (hts _ mwX4_append_1) (fun _ h9 => h9) rfl dX4_append_36 ?_
  refine lv_iload_n hx hb dX4_append_39 rfl (lv_at hl 1 rfl) ?_
  obtain ⟨u5, hu5, hres⟩ := mi_b hres
  refine call_I C0 (run_SN C0 (rest := [.int sn, .ref (q 12)]) (kX7_readsA l (dC, dI) (ty3 cI cJ cZ) (wC q cI cJ cZ nr wd sg lw hg fr to sn pl kd (upd tg (Int32.toNatClampNeg t1) t0) sa sb bn mt pa ob tb fo rv ro tk ov sh tu rk cb rlo rhi rl rg tf kn tl th tv) x1 u5 hu5 _) ⟨va_cnB (host := RX7) 1 hts gX4_append_X7_readsA_n42 rfl rfl rfl (hN (.methodLinkNest RX4 42 yX7_readsA RX7) (by decide +kernel)) (hts _ mwX4_append_3) (by decide +kernel) ⟨by decide, by decide⟩, (hts _ mwX4_append_6), trivial⟩ hP hD rfl hl.1 rfl (Nat.le_of_ble_eq_true rfl) dX4_append_40) hD hS (fun H locs hP hD hS => ?_)
  refine lv_if_eq (tgt := 50) hx hb dX4_append_43 (by decide) (fun c_6 => ?_) (fun c_6 => ?_)
  · replace hres := mi_p c_6 hres
    refine lv_iconst (v := (0 : Int32)) hx hb dX4_append_50 (by decide) ?_
    obtain ⟨g_7, hres⟩ := mi_g hres
    refine va_iast (D := (dC, dI)) (cl := vwCl) hx hb hK hP hD hS 12 0 rfl rfl g_7 dX4_append_51 (fun H locs hP hD hS => ?_)
    have hP : va_P (dC, dI) vwCl (wC q cI cJ cZ nr wd sg lw hg fr to sn pl kd (upd tg (Int32.toNatClampNeg t1) t0) (upd sa (Int32.toNatClampNeg sn) (0 : Int32)) sb bn mt pa ob tb fo rv ro tk ov sh tu rk cb rlo rhi rl rg tf kn tl th tv) H := hP
    have hD : va_D A (wC q cI cJ cZ nr wd sg lw hg fr to sn pl kd (upd tg (Int32.toNatClampNeg t1) t0) (upd sa (Int32.toNatClampNeg sn) (0 : Int32)) sb bn mt pa ob tb fo rv ro tk ov sh tu rk cb rlo rhi rl rg tf kn tl th tv) := hD
    refine lv_aload_n hx hb dX4_append_52 rfl (lv_at hl 0 rfl) ?_
    refine va_get (D := (dC, dI)) (ci := 4) (v := .ref (q 13)) (C := RX4) (T := TX4) (N := 9) hx hb hts hwX4_append_RX4 hown hK hP 9 rfl rfl 3 (by decide) (hts _ mwX4_append_7) (fun _ h9 => h9) rfl dX4_append_53 ?_
    refine lv_aload_n hx hb dX4_append_56 rfl (lv_at hl 0 rfl) ?_
    refine va_get (D := (dC, dI)) (ci := 4) (v := .int sn) (C := RX4) (T := TX4) (N := 9) hx hb hts hwX4_append_RX4 hown hK hP 9 rfl rfl 6 (by decide) (hts _ mwX4_append_1) (fun _ h9 => h9) rfl dX4_append_57 ?_
    refine lv_iload hx hb dX4_append_60 (lv_at hl 3 rfl) ?_
    refine va_iast (D := (dC, dI)) (cl := vwCl) hx hb hK hP hD hS 13 0 rfl rfl g_7 dX4_append_62 (fun H locs hP hD hS => ?_)
    have hP : va_P (dC, dI) vwCl (wC q cI cJ cZ nr wd sg lw hg fr to sn pl kd (upd tg (Int32.toNatClampNeg t1) t0) (upd sa (Int32.toNatClampNeg sn) (0 : Int32)) (upd sb (Int32.toNatClampNeg sn) x4) bn mt pa ob tb fo rv ro tk ov sh tu rk cb rlo rhi rl rg tf kn tl th tv) H := hP
    have hD : va_D A (wC q cI cJ cZ nr wd sg lw hg fr to sn pl kd (upd tg (Int32.toNatClampNeg t1) t0) (upd sa (Int32.toNatClampNeg sn) (0 : Int32)) (upd sb (Int32.toNatClampNeg sn) x4) bn mt pa ob tb fo rv ro tk ov sh tu rk cb rlo rhi rl rg tf kn tl th tv) := hD
    refine lv_aload_n hx hb dX4_append_63 rfl (lv_at hl 0 rfl) ?_
    refine va_get (D := (dC, dI)) (ci := 4) (v := .ref (q 14)) (C := RX4) (T := TX4) (N := 9) hx hb hts hwX4_append_RX4 hown hK hP 9 rfl rfl 4 (by decide) (hts _ mwX4_append_8) (fun _ h9 => h9) rfl dX4_append_64 ?_
    refine lv_aload_n hx hb dX4_append_67 rfl (lv_at hl 0 rfl) ?_
    refine va_get (D := (dC, dI)) (ci := 4) (v := .int sn) (C := RX4) (T := TX4) (N := 9) hx hb hts hwX4_append_RX4 hown hK hP 9 rfl rfl 6 (by decide) (hts _ mwX4_append_1) (fun _ h9 => h9) rfl dX4_append_68 ?_
    refine lv_iload_n hx hb dX4_append_71 rfl (lv_at hl 1 rfl) ?_
    obtain ⟨u8, hu8, hres⟩ := mi_b hres
    refine call_I C0 (run_SN C0 (rest := [.int sn, .ref (q 14)]) (kX7_readsB l (dC, dI) (ty3 cI cJ cZ) (wC q cI cJ cZ nr wd sg lw hg fr to sn pl kd (upd tg (Int32.toNatClampNeg t1) t0) (upd sa (Int32.toNatClampNeg sn) (0 : Int32)) (upd sb (Int32.toNatClampNeg sn) x4) bn mt pa ob tb fo rv ro tk ov sh tu rk cb rlo rhi rl rg tf kn tl th tv) x1 u8 hu8 _) ⟨va_cnB (host := RX7) 1 hts gX4_append_X7_readsB_n45 rfl rfl rfl (hN (.methodLinkNest RX4 45 yX7_readsB RX7) (by decide +kernel)) (hts _ mwX4_append_3) (by decide +kernel) ⟨by decide, by decide⟩, (hts _ mwX4_append_9), trivial⟩ hP hD rfl hl.1 rfl (Nat.le_of_ble_eq_true rfl) dX4_append_72) hD hS (fun H locs hP hD hS => ?_)
    refine va_zast (D := (dC, dI)) (cl := vwCl) hx hb hK hP hD hS 14 2 rfl rfl g_7 dX4_append_75 (fun H locs hP hD hS => ?_)
    have hP : va_P (dC, dI) vwCl (wC q cI cJ cZ nr wd sg lw hg fr to sn pl kd (upd tg (Int32.toNatClampNeg t1) t0) (upd sa (Int32.toNatClampNeg sn) (0 : Int32)) (upd sb (Int32.toNatClampNeg sn) x4) (upd bn (Int32.toNatClampNeg sn) (vp_nar .boolean u8)) mt pa ob tb fo rv ro tk ov sh tu rk cb rlo rhi rl rg tf kn tl th tv) H := hP
    have hD : va_D A (wC q cI cJ cZ nr wd sg lw hg fr to sn pl kd (upd tg (Int32.toNatClampNeg t1) t0) (upd sa (Int32.toNatClampNeg sn) (0 : Int32)) (upd sb (Int32.toNatClampNeg sn) x4) (upd bn (Int32.toNatClampNeg sn) (vp_nar .boolean u8)) mt pa ob tb fo rv ro tk ov sh tu rk cb rlo rhi rl rg tf kn tl th tv) := hD
    refine lv_aload_n hx hb dX4_append_76 rfl (lv_at hl 0 rfl) ?_
    refine lv_dup hx hb dX4_append_77 rfl ?_
    refine va_get (D := (dC, dI)) (ci := 4) (v := .int sn) (C := RX4) (T := TX4) (N := 9) hx hb hts hwX4_append_RX4 hown hK hP 9 rfl rfl 6 (by decide) (hts _ mwX4_append_1) (fun _ h9 => h9) rfl dX4_append_78 ?_
    refine lv_iconst (v := (1 : Int32)) hx hb dX4_append_81 (by decide) ?_
    refine lv_iadd hx hb dX4_append_82 ?_
    refine va_put (D := (dC, dI)) (ci := 4) (v := .int (sn + (1 : Int32))) (ty := .int) (C := RX4) (T := TX4) (N := 9) hx hb hts hwX4_append_RX4 tyX4 tyX4_ok nmX4 hown hK hP hD hS 9 rfl rfl 6 (by decide) (hts _ mwX4_append_1) (fun _ h9 => h9) rfl (by decide +kernel) rfl rfl (Nat.le_of_ble_eq_true rfl) dX4_append_83 (fun H locs hP hD hS => ?_)
    have hP : va_P (dC, dI) vwCl (wC q cI cJ cZ nr wd sg lw hg fr to (sn + (1 : Int32)) pl kd (upd tg (Int32.toNatClampNeg t1) t0) (upd sa (Int32.toNatClampNeg sn) (0 : Int32)) (upd sb (Int32.toNatClampNeg sn) x4) (upd bn (Int32.toNatClampNeg sn) (vp_nar .boolean u8)) mt pa ob tb fo rv ro tk ov sh tu rk cb rlo rhi rl rg tf kn tl th tv) H := hP
    have hD : va_D A (wC q cI cJ cZ nr wd sg lw hg fr to (sn + (1 : Int32)) pl kd (upd tg (Int32.toNatClampNeg t1) t0) (upd sa (Int32.toNatClampNeg sn) (0 : Int32)) (upd sb (Int32.toNatClampNeg sn) x4) (upd bn (Int32.toNatClampNeg sn) (vp_nar .boolean u8)) mt pa ob tb fo rv ro tk ov sh tu rk cb rlo rhi rl rg tf kn tl th tv) := hD
    refine lv_aload_n hx hb dX4_append_86 rfl (lv_at hl 0 rfl) ?_
    obtain ⟨u9, hu9, hres⟩ := mi_b hres
    refine call_V C0 (run_V C0 (rest := []) (kX4_retrace l dC dI q cI cJ cZ nr wd sg lw hg fr to (sn + (1 : Int32)) pl kd (upd tg (Int32.toNatClampNeg t1) t0) (upd sa (Int32.toNatClampNeg sn) (0 : Int32)) (upd sb (Int32.toNatClampNeg sn) x4) (upd bn (Int32.toNatClampNeg sn) (vp_nar .boolean u8)) mt pa ob tb fo rv ro tk ov sh tu rk cb rlo rhi rl rg tf kn tl th tv   u9 hu9 _) (cwV 0 hts gX4_append_X4_retrace rfl rfl rfl (by decide +kernel) ⟨by decide, by decide⟩) hP hD (ci := 4) (q0 := 9) rfl rfl rfl hl.1 rfl (Nat.le_of_ble_eq_true rfl) dX4_append_87) hD hS (fun H locs hP hD hS => ?_)
    obtain rfl := Option.some.inj hres
    exact ret_V C0 hP hD hS dX4_append_90
  · replace hres := mi_n c_6 hres
    refine lv_iload_n hx hb dX4_append_46 rfl (lv_at hl 2 rfl) ?_
    refine lv_goto (tgt := 51) hx hb dX4_append_47 (by decide) ?_
    obtain ⟨g_10, hres⟩ := mi_g hres
    refine va_iast (D := (dC, dI)) (cl := vwCl) hx hb hK hP hD hS 12 0 rfl rfl g_10 dX4_append_51 (fun H locs hP hD hS => ?_)
    have hP : va_P (dC, dI) vwCl (wC q cI cJ cZ nr wd sg lw hg fr to sn pl kd (upd tg (Int32.toNatClampNeg t1) t0) (upd sa (Int32.toNatClampNeg sn) x3) sb bn mt pa ob tb fo rv ro tk ov sh tu rk cb rlo rhi rl rg tf kn tl th tv) H := hP
    have hD : va_D A (wC q cI cJ cZ nr wd sg lw hg fr to sn pl kd (upd tg (Int32.toNatClampNeg t1) t0) (upd sa (Int32.toNatClampNeg sn) x3) sb bn mt pa ob tb fo rv ro tk ov sh tu rk cb rlo rhi rl rg tf kn tl th tv) := hD
    refine lv_aload_n hx hb dX4_append_52 rfl (lv_at hl 0 rfl) ?_
    refine va_get (D := (dC, dI)) (ci := 4) (v := .ref (q 13)) (C := RX4) (T := TX4) (N := 9) hx hb hts hwX4_append_RX4 hown hK hP 9 rfl rfl 3 (by decide) (hts _ mwX4_append_7) (fun _ h9 => h9) rfl dX4_append_53 ?_
    refine lv_aload_n hx hb dX4_append_56 rfl (lv_at hl 0 rfl) ?_
    refine va_get (D := (dC, dI)) (ci := 4) (v := .int sn) (C := RX4) (T := TX4) (N := 9) hx hb hts hwX4_append_RX4 hown hK hP 9 rfl rfl 6 (by decide) (hts _ mwX4_append_1) (fun _ h9 => h9) rfl dX4_append_57 ?_
    refine lv_iload hx hb dX4_append_60 (lv_at hl 3 rfl) ?_
    refine va_iast (D := (dC, dI)) (cl := vwCl) hx hb hK hP hD hS 13 0 rfl rfl g_10 dX4_append_62 (fun H locs hP hD hS => ?_)
    have hP : va_P (dC, dI) vwCl (wC q cI cJ cZ nr wd sg lw hg fr to sn pl kd (upd tg (Int32.toNatClampNeg t1) t0) (upd sa (Int32.toNatClampNeg sn) x3) (upd sb (Int32.toNatClampNeg sn) x4) bn mt pa ob tb fo rv ro tk ov sh tu rk cb rlo rhi rl rg tf kn tl th tv) H := hP
    have hD : va_D A (wC q cI cJ cZ nr wd sg lw hg fr to sn pl kd (upd tg (Int32.toNatClampNeg t1) t0) (upd sa (Int32.toNatClampNeg sn) x3) (upd sb (Int32.toNatClampNeg sn) x4) bn mt pa ob tb fo rv ro tk ov sh tu rk cb rlo rhi rl rg tf kn tl th tv) := hD
    refine lv_aload_n hx hb dX4_append_63 rfl (lv_at hl 0 rfl) ?_
    refine va_get (D := (dC, dI)) (ci := 4) (v := .ref (q 14)) (C := RX4) (T := TX4) (N := 9) hx hb hts hwX4_append_RX4 hown hK hP 9 rfl rfl 4 (by decide) (hts _ mwX4_append_8) (fun _ h9 => h9) rfl dX4_append_64 ?_
    refine lv_aload_n hx hb dX4_append_67 rfl (lv_at hl 0 rfl) ?_
    refine va_get (D := (dC, dI)) (ci := 4) (v := .int sn) (C := RX4) (T := TX4) (N := 9) hx hb hts hwX4_append_RX4 hown hK hP 9 rfl rfl 6 (by decide) (hts _ mwX4_append_1) (fun _ h9 => h9) rfl dX4_append_68 ?_
    refine lv_iload_n hx hb dX4_append_71 rfl (lv_at hl 1 rfl) ?_
    obtain ⟨u11, hu11, hres⟩ := mi_b hres
    refine call_I C0 (run_SN C0 (rest := [.int sn, .ref (q 14)]) (kX7_readsB l (dC, dI) (ty3 cI cJ cZ) (wC q cI cJ cZ nr wd sg lw hg fr to sn pl kd (upd tg (Int32.toNatClampNeg t1) t0) (upd sa (Int32.toNatClampNeg sn) x3) (upd sb (Int32.toNatClampNeg sn) x4) bn mt pa ob tb fo rv ro tk ov sh tu rk cb rlo rhi rl rg tf kn tl th tv) x1 u11 hu11 _) ⟨va_cnB (host := RX7) 1 hts gX4_append_X7_readsB_n45 rfl rfl rfl (hN (.methodLinkNest RX4 45 yX7_readsB RX7) (by decide +kernel)) (hts _ mwX4_append_3) (by decide +kernel) ⟨by decide, by decide⟩, (hts _ mwX4_append_9), trivial⟩ hP hD rfl hl.1 rfl (Nat.le_of_ble_eq_true rfl) dX4_append_72) hD hS (fun H locs hP hD hS => ?_)
    refine va_zast (D := (dC, dI)) (cl := vwCl) hx hb hK hP hD hS 14 2 rfl rfl g_10 dX4_append_75 (fun H locs hP hD hS => ?_)
    have hP : va_P (dC, dI) vwCl (wC q cI cJ cZ nr wd sg lw hg fr to sn pl kd (upd tg (Int32.toNatClampNeg t1) t0) (upd sa (Int32.toNatClampNeg sn) x3) (upd sb (Int32.toNatClampNeg sn) x4) (upd bn (Int32.toNatClampNeg sn) (vp_nar .boolean u11)) mt pa ob tb fo rv ro tk ov sh tu rk cb rlo rhi rl rg tf kn tl th tv) H := hP
    have hD : va_D A (wC q cI cJ cZ nr wd sg lw hg fr to sn pl kd (upd tg (Int32.toNatClampNeg t1) t0) (upd sa (Int32.toNatClampNeg sn) x3) (upd sb (Int32.toNatClampNeg sn) x4) (upd bn (Int32.toNatClampNeg sn) (vp_nar .boolean u11)) mt pa ob tb fo rv ro tk ov sh tu rk cb rlo rhi rl rg tf kn tl th tv) := hD
    refine lv_aload_n hx hb dX4_append_76 rfl (lv_at hl 0 rfl) ?_
    refine lv_dup hx hb dX4_append_77 rfl ?_
    refine va_get (D := (dC, dI)) (ci := 4) (v := .int sn) (C := RX4) (T := TX4) (N := 9) hx hb hts hwX4_append_RX4 hown hK hP 9 rfl rfl 6 (by decide) (hts _ mwX4_append_1) (fun _ h9 => h9) rfl dX4_append_78 ?_
    refine lv_iconst (v := (1 : Int32)) hx hb dX4_append_81 (by decide) ?_
    refine lv_iadd hx hb dX4_append_82 ?_
    refine va_put (D := (dC, dI)) (ci := 4) (v := .int (sn + (1 : Int32))) (ty := .int) (C := RX4) (T := TX4) (N := 9) hx hb hts hwX4_append_RX4 tyX4 tyX4_ok nmX4 hown hK hP hD hS 9 rfl rfl 6 (by decide) (hts _ mwX4_append_1) (fun _ h9 => h9) rfl (by decide +kernel) rfl rfl (Nat.le_of_ble_eq_true rfl) dX4_append_83 (fun H locs hP hD hS => ?_)
    have hP : va_P (dC, dI) vwCl (wC q cI cJ cZ nr wd sg lw hg fr to (sn + (1 : Int32)) pl kd (upd tg (Int32.toNatClampNeg t1) t0) (upd sa (Int32.toNatClampNeg sn) x3) (upd sb (Int32.toNatClampNeg sn) x4) (upd bn (Int32.toNatClampNeg sn) (vp_nar .boolean u11)) mt pa ob tb fo rv ro tk ov sh tu rk cb rlo rhi rl rg tf kn tl th tv) H := hP
    have hD : va_D A (wC q cI cJ cZ nr wd sg lw hg fr to (sn + (1 : Int32)) pl kd (upd tg (Int32.toNatClampNeg t1) t0) (upd sa (Int32.toNatClampNeg sn) x3) (upd sb (Int32.toNatClampNeg sn) x4) (upd bn (Int32.toNatClampNeg sn) (vp_nar .boolean u11)) mt pa ob tb fo rv ro tk ov sh tu rk cb rlo rhi rl rg tf kn tl th tv) := hD
    refine lv_aload_n hx hb dX4_append_86 rfl (lv_at hl 0 rfl) ?_
    obtain ⟨u12, hu12, hres⟩ := mi_b hres
    refine call_V C0 (run_V C0 (rest := []) (kX4_retrace l dC dI q cI cJ cZ nr wd sg lw hg fr to (sn + (1 : Int32)) pl kd (upd tg (Int32.toNatClampNeg t1) t0) (upd sa (Int32.toNatClampNeg sn) x3) (upd sb (Int32.toNatClampNeg sn) x4) (upd bn (Int32.toNatClampNeg sn) (vp_nar .boolean u11)) mt pa ob tb fo rv ro tk ov sh tu rk cb rlo rhi rl rg tf kn tl th tv   u12 hu12 _) (cwV 0 hts gX4_append_X4_retrace rfl rfl rfl (by decide +kernel) ⟨by decide, by decide⟩) hP hD (ci := 4) (q0 := 9) rfl rfl rfl hl.1 rfl (Nat.le_of_ble_eq_true rfl) dX4_append_87) hD hS (fun H locs hP hD hS => ?_)
    obtain rfl := Option.some.inj hres
    exact ret_V C0 hP hD hS dX4_append_90
set_option maxHeartbeats 4000000 in
set_option maxRecDepth 100000 in
theorem kX4_append (l : Launch) (dC : Nat → ClassId) (dI : Nat → Nat → Nat) (q : Nat → Nat) (cI cJ cZ : ClassId) (nr : Int32) (wd : Nat → Int32) (sg : Nat → Int32) (lw : Nat → Int64) (hg : Nat → Int64) (fr : Nat → Int32) (to : Nat → Int32) (sn : Int32) (pl : Int32) (kd : Nat → Int32) (tg : Nat → Int32) (sa : Nat → Int32) (sb : Nat → Int32) (bn : Nat → Int32) (mt : Nat → Int32) (pa : Nat → Int32) (ob : Int32) (tb : Int32) (fo : Int32) (rv : Nat → Int64) (ro : Int32) (tk : Int32) (ov : Nat → Int32) (sh : Nat → Int32) (tu : Nat → Int32) (rk : Int32) (cb : Int32) (rlo : Int64) (rhi : Int64) (rl : Nat → Int64) (rg : Nat → Int64) (tf : Int32) (kn : Int32) (tl : Nat → Int64) (th : Nat → Int64) (tv : Nat → Int64) (x1 : Int32) (x2 : Int32) (x3 : Int32) (x4 : Int32) (RES : (Int32) × (Int32) × (Nat → Int32) × (Nat → Int32) × (Nat → Int32) × (Nat → Int32) × (Nat → Int32) × (Nat → Int32)) (hres : mX4_append sn pl kd tg sa sb bn pa x1 x2 x3 x4 = some RES) : CtV l yX4_append wsX4_append rmX4_append (dC, dI) (ty3 cI cJ cZ) (wC q cI cJ cZ nr wd sg lw hg fr to sn pl kd tg sa sb bn mt pa ob tb fo rv ro tk ov sh tu rk cb rlo rhi rl rg tf kn tl th tv) [.ref (q 9), .int x1, .int x2, .int x3, .int x4] (wC q cI cJ cZ nr wd sg lw hg fr to RES.1 RES.2.1 RES.2.2.1 RES.2.2.2.1 RES.2.2.2.2.1 RES.2.2.2.2.2.1 RES.2.2.2.2.2.2.1 mt RES.2.2.2.2.2.2.2 ob tb fo rv ro tk ov sh tu rk cb rlo rhi rl rg tf kn tl th tv) := by
  intro sz
  refine ct_entry (cc := cX4_append) (maxL := 5) (ret := none) (own := RX4) (by decide) rfl rfl (Nat.le_of_ble_eq_true rfl) (ll := [(0, .ref (q 9)), (1, .int x1), (2, .int x2), (3, .int x3), (4, .int x4)]) rfl ?_
  intro p e s m args below meth c hsz C0 _ hP hD ls hl
  have C1 := C0
  obtain ⟨hx, hb, hr, hml, hown, hts, hlocks, hN, hK, hA⟩ := C1
  have hS : va_S (va_A (wC q cI cJ cZ nr wd sg lw hg fr to sn pl kd tg sa sb bn mt pa ob tb fo rv ro tk ov sh tu rk cb rlo rhi rl rg tf kn tl th tv) sz) s.heap s.heap [] := va_S.rf
  generalize va_A (wC q cI cJ cZ nr wd sg lw hg fr to sn pl kd tg sa sb bn mt pa ob tb fo rv ro tk ov sh tu rk cb rlo rhi rl rg tf kn tl th tv) sz = A at C0 hD hA hS ⊢
  show W p l e rmX4_append s m args below meth c s.heap [] 0 0 (QV below args s A (dC, dI) (ty3 cI cJ cZ) (wC q cI cJ cZ nr wd sg lw hg fr to RES.1 RES.2.1 RES.2.2.1 RES.2.2.2.1 RES.2.2.2.2.1 RES.2.2.2.2.2.1 RES.2.2.2.2.2.2.1 mt RES.2.2.2.2.2.2.2 ob tb fo rv ro tk ov sh tu rk cb rlo rhi rl rg tf kn tl th tv)) (F0 m 0 ls [])
  unfold mX4_append at hres
  refine lv_aload_n hx hb dX4_append_0 rfl (lv_at hl 0 rfl) ?_
  refine va_get (D := (dC, dI)) (ci := 4) (v := .ref (q 10)) (C := RX4) (T := TX4) (N := 9) hx hb hts hwX4_append_RX4 hown hK hP 9 rfl rfl 0 (by decide) (hts _ mwX4_append_0) (fun _ h9 => h9) rfl dX4_append_1 ?_
  refine lv_aload_n hx hb dX4_append_4 rfl (lv_at hl 0 rfl) ?_
  refine va_get (D := (dC, dI)) (ci := 4) (v := .int sn) (C := RX4) (T := TX4) (N := 9) hx hb hts hwX4_append_RX4 hown hK hP 9 rfl rfl 6 (by decide) (hts _ mwX4_append_1) (fun _ h9 => h9) rfl dX4_append_5 ?_
  refine lv_iload_n hx hb dX4_append_8 rfl (lv_at hl 1 rfl) ?_
  obtain ⟨g_1, hres⟩ := mi_g hres
  refine va_iast (D := (dC, dI)) (cl := vwCl) hx hb hK hP hD hS 10 0 rfl rfl g_1 dX4_append_9 (fun H locs hP hD hS => ?_)
  have hP : va_P (dC, dI) vwCl (wC q cI cJ cZ nr wd sg lw hg fr to sn pl (upd kd (Int32.toNatClampNeg sn) x1) tg sa sb bn mt pa ob tb fo rv ro tk ov sh tu rk cb rlo rhi rl rg tf kn tl th tv) H := hP
  have hD : va_D A (wC q cI cJ cZ nr wd sg lw hg fr to sn pl (upd kd (Int32.toNatClampNeg sn) x1) tg sa sb bn mt pa ob tb fo rv ro tk ov sh tu rk cb rlo rhi rl rg tf kn tl th tv) := hD
  refine lv_aload_n hx hb dX4_append_10 rfl (lv_at hl 0 rfl) ?_
  refine va_get (D := (dC, dI)) (ci := 4) (v := .ref (q 11)) (C := RX4) (T := TX4) (N := 9) hx hb hts hwX4_append_RX4 hown hK hP 9 rfl rfl 1 (by decide) (hts _ mwX4_append_2) (fun _ h9 => h9) rfl dX4_append_11 ?_
  refine lv_aload_n hx hb dX4_append_14 rfl (lv_at hl 0 rfl) ?_
  refine va_get (D := (dC, dI)) (ci := 4) (v := .int sn) (C := RX4) (T := TX4) (N := 9) hx hb hts hwX4_append_RX4 hown hK hP 9 rfl rfl 6 (by decide) (hts _ mwX4_append_1) (fun _ h9 => h9) rfl dX4_append_15 ?_
  refine lv_iload_n hx hb dX4_append_18 rfl (lv_at hl 1 rfl) ?_
  obtain ⟨u2, hu2, hres⟩ := mi_b hres
  refine call_I C0 (run_SN C0 (rest := [.int sn, .ref (q 11)]) (kX7_hasTarget l (dC, dI) (ty3 cI cJ cZ) (wC q cI cJ cZ nr wd sg lw hg fr to sn pl (upd kd (Int32.toNatClampNeg sn) x1) tg sa sb bn mt pa ob tb fo rv ro tk ov sh tu rk cb rlo rhi rl rg tf kn tl th tv) x1 u2 hu2 _) ⟨va_cnB (host := RX7) 1 hts gX4_append_X7_hasTarget_n38 rfl rfl rfl (hN (.methodLinkNest RX4 38 yX7_hasTarget RX7) (by decide +kernel)) (hts _ mwX4_append_3) (by decide +kernel) ⟨by decide, by decide⟩, (hts _ mwX4_append_4), trivial⟩ hP hD rfl hl.1 rfl (Nat.le_of_ble_eq_true rfl) dX4_append_19) hD hS (fun H locs hP hD hS => ?_)
  refine lv_if_eq (tgt := 29) hx hb dX4_append_22 (by decide) (fun c_3 => ?_) (fun c_3 => ?_)
  · replace hres := mi_p c_3 hres
    refine lv_iconst (v := (0 : Int32)) hx hb dX4_append_29 (by decide) ?_
    exact zX4_append_L30 C0  sn pl (upd kd (Int32.toNatClampNeg sn) x1) tg sa sb bn pa x1 x3 x4 (0 : Int32) sn _ _ ls hP hD hS (lv_sub hl [0, 1, 3, 4] rfl) hres
  · replace hres := mi_n c_3 hres
    refine lv_iload_n hx hb dX4_append_25 rfl (lv_at hl 2 rfl) ?_
    refine lv_goto (tgt := 30) hx hb dX4_append_26 (by decide) ?_
    exact zX4_append_L30 C0  sn pl (upd kd (Int32.toNatClampNeg sn) x1) tg sa sb bn pa x1 x3 x4 x2 sn _ _ ls hP hD hS (lv_sub hl [0, 1, 3, 4] rfl) hres
/-! ### SumsOver$Steps.dropLast()V -/
set_option maxRecDepth 20000 in
theorem hwX4_dropLast_RX4 : ∀ w ∈ u_ws RX4 TX4 9, w ∈ wsX4_dropLast := by decide +kernel
theorem mwX4_dropLast_0 : (.fieldLink RX4 34 "SumsOver$Steps" "size" "I" : Cond) ∈ wsX4_dropLast := by decide +kernel
theorem mwX4_dropLast_1 : (.fieldLink RX4 28 "SumsOver$Steps" "meant" "[Z" : Cond) ∈ wsX4_dropLast := by decide +kernel
def rmX4_dropLast : Room := { frames := 2, cells := 0, slots := 0, locals := 46 }
set_option maxHeartbeats 4000000 in
set_option maxRecDepth 100000 in
theorem kX4_dropLast (l : Launch) (dC : Nat → ClassId) (dI : Nat → Nat → Nat) (q : Nat → Nat) (cI cJ cZ : ClassId) (nr : Int32) (wd : Nat → Int32) (sg : Nat → Int32) (lw : Nat → Int64) (hg : Nat → Int64) (fr : Nat → Int32) (to : Nat → Int32) (sn : Int32) (pl : Int32) (kd : Nat → Int32) (tg : Nat → Int32) (sa : Nat → Int32) (sb : Nat → Int32) (bn : Nat → Int32) (mt : Nat → Int32) (pa : Nat → Int32) (ob : Int32) (tb : Int32) (fo : Int32) (rv : Nat → Int64) (ro : Int32) (tk : Int32) (ov : Nat → Int32) (sh : Nat → Int32) (tu : Nat → Int32) (rk : Int32) (cb : Int32) (rlo : Int64) (rhi : Int64) (rl : Nat → Int64) (rg : Nat → Int64) (tf : Int32) (kn : Int32) (tl : Nat → Int64) (th : Nat → Int64) (tv : Nat → Int64)  (RES : (Int32) × (Int32) × (Nat → Int32) × (Nat → Int32)) (hres : mX4_dropLast sn pl kd sb mt pa = some RES) : CtV l yX4_dropLast wsX4_dropLast rmX4_dropLast (dC, dI) (ty3 cI cJ cZ) (wC q cI cJ cZ nr wd sg lw hg fr to sn pl kd tg sa sb bn mt pa ob tb fo rv ro tk ov sh tu rk cb rlo rhi rl rg tf kn tl th tv) [.ref (q 9)] (wC q cI cJ cZ nr wd sg lw hg fr to RES.1 RES.2.1 kd tg sa sb bn RES.2.2.1 RES.2.2.2 ob tb fo rv ro tk ov sh tu rk cb rlo rhi rl rg tf kn tl th tv) := by
  intro sz
  refine ct_entry (cc := cX4_dropLast) (maxL := 1) (ret := none) (own := RX4) (by decide) rfl rfl (Nat.le_of_ble_eq_true rfl) (ll := [(0, .ref (q 9))]) rfl ?_
  intro p e s m args below meth c hsz C0 _ hP hD ls hl
  have C1 := C0
  obtain ⟨hx, hb, hr, hml, hown, hts, hlocks, hN, hK, hA⟩ := C1
  have hS : va_S (va_A (wC q cI cJ cZ nr wd sg lw hg fr to sn pl kd tg sa sb bn mt pa ob tb fo rv ro tk ov sh tu rk cb rlo rhi rl rg tf kn tl th tv) sz) s.heap s.heap [] := va_S.rf
  generalize va_A (wC q cI cJ cZ nr wd sg lw hg fr to sn pl kd tg sa sb bn mt pa ob tb fo rv ro tk ov sh tu rk cb rlo rhi rl rg tf kn tl th tv) sz = A at C0 hD hA hS ⊢
  show W p l e rmX4_dropLast s m args below meth c s.heap [] 0 0 (QV below args s A (dC, dI) (ty3 cI cJ cZ) (wC q cI cJ cZ nr wd sg lw hg fr to RES.1 RES.2.1 kd tg sa sb bn RES.2.2.1 RES.2.2.2 ob tb fo rv ro tk ov sh tu rk cb rlo rhi rl rg tf kn tl th tv)) (F0 m 0 ls [])
  unfold mX4_dropLast at hres
  refine lv_aload_n hx hb dX4_dropLast_0 rfl (lv_at hl 0 rfl) ?_
  refine lv_dup hx hb dX4_dropLast_1 rfl ?_
  refine va_get (D := (dC, dI)) (ci := 4) (v := .int sn) (C := RX4) (T := TX4) (N := 9) hx hb hts hwX4_dropLast_RX4 hown hK hP 9 rfl rfl 6 (by decide) (hts _ mwX4_dropLast_0) (fun _ h9 => h9) rfl dX4_dropLast_2 ?_
  refine lv_iconst (v := (1 : Int32)) hx hb dX4_dropLast_5 (by decide) ?_
  refine lv_isub hx hb dX4_dropLast_6 ?_
  refine va_put (D := (dC, dI)) (ci := 4) (v := .int (sn - (1 : Int32))) (ty := .int) (C := RX4) (T := TX4) (N := 9) hx hb hts hwX4_dropLast_RX4 tyX4 tyX4_ok nmX4 hown hK hP hD hS 9 rfl rfl 6 (by decide) (hts _ mwX4_dropLast_0) (fun _ h9 => h9) rfl (by decide +kernel) rfl rfl (Nat.le_of_ble_eq_true rfl) dX4_dropLast_7 (fun H locs hP hD hS => ?_)
  have hP : va_P (dC, dI) vwCl (wC q cI cJ cZ nr wd sg lw hg fr to (sn - (1 : Int32)) pl kd tg sa sb bn mt pa ob tb fo rv ro tk ov sh tu rk cb rlo rhi rl rg tf kn tl th tv) H := hP
  have hD : va_D A (wC q cI cJ cZ nr wd sg lw hg fr to (sn - (1 : Int32)) pl kd tg sa sb bn mt pa ob tb fo rv ro tk ov sh tu rk cb rlo rhi rl rg tf kn tl th tv) := hD
  refine lv_aload_n hx hb dX4_dropLast_10 rfl (lv_at hl 0 rfl) ?_
  refine va_get (D := (dC, dI)) (ci := 4) (v := .ref (q 15)) (C := RX4) (T := TX4) (N := 9) hx hb hts hwX4_dropLast_RX4 hown hK hP 9 rfl rfl 5 (by decide) (hts _ mwX4_dropLast_1) (fun _ h9 => h9) rfl dX4_dropLast_11 ?_
  refine lv_aload_n hx hb dX4_dropLast_14 rfl (lv_at hl 0 rfl) ?_
  refine va_get (D := (dC, dI)) (ci := 4) (v := .int (sn - (1 : Int32))) (C := RX4) (T := TX4) (N := 9) hx hb hts hwX4_dropLast_RX4 hown hK hP 9 rfl rfl 6 (by decide) (hts _ mwX4_dropLast_0) (fun _ h9 => h9) rfl dX4_dropLast_15 ?_
  refine lv_iconst (v := (0 : Int32)) hx hb dX4_dropLast_18 (by decide) ?_
  obtain ⟨g_1, hres⟩ := mi_g hres
  refine va_zast (D := (dC, dI)) (cl := vwCl) hx hb hK hP hD hS 15 2 rfl rfl g_1 dX4_dropLast_19 (fun H locs hP hD hS => ?_)
  have hP : va_P (dC, dI) vwCl (wC q cI cJ cZ nr wd sg lw hg fr to (sn - (1 : Int32)) pl kd tg sa sb bn (upd mt (Int32.toNatClampNeg (sn - (1 : Int32))) (vp_nar .boolean (0 : Int32))) pa ob tb fo rv ro tk ov sh tu rk cb rlo rhi rl rg tf kn tl th tv) H := hP
  have hD : va_D A (wC q cI cJ cZ nr wd sg lw hg fr to (sn - (1 : Int32)) pl kd tg sa sb bn (upd mt (Int32.toNatClampNeg (sn - (1 : Int32))) (vp_nar .boolean (0 : Int32))) pa ob tb fo rv ro tk ov sh tu rk cb rlo rhi rl rg tf kn tl th tv) := hD
  refine lv_aload_n hx hb dX4_dropLast_20 rfl (lv_at hl 0 rfl) ?_
  obtain ⟨u2, hu2, hres⟩ := mi_b hres
  refine call_V C0 (run_V C0 (rest := []) (kX4_retrace l dC dI q cI cJ cZ nr wd sg lw hg fr to (sn - (1 : Int32)) pl kd tg sa sb bn (upd mt (Int32.toNatClampNeg (sn - (1 : Int32))) (vp_nar .boolean (0 : Int32))) pa ob tb fo rv ro tk ov sh tu rk cb rlo rhi rl rg tf kn tl th tv   u2 hu2 _) (cwV 0 hts gX4_dropLast_X4_retrace rfl rfl rfl (by decide +kernel) ⟨by decide, by decide⟩) hP hD (ci := 4) (q0 := 9) rfl rfl rfl hl.1 rfl (Nat.le_of_ble_eq_true rfl) dX4_dropLast_21) hD hS (fun H locs hP hD hS => ?_)
  obtain rfl := Option.some.inj hres
  exact ret_V C0 hP hD hS dX4_dropLast_24
/-! ### SumsOver$Steps.inLoop()Z -/
set_option maxRecDepth 20000 in
theorem hwX4_inLoop_RX4 : ∀ w ∈ u_ws RX4 TX4 9, w ∈ wsX4_inLoop := by decide +kernel
theorem mwX4_inLoop_0 : (.fieldLink RX4 34 "SumsOver$Steps" "size" "I" : Cond) ∈ wsX4_inLoop := by decide +kernel
theorem mwX4_inLoop_1 : (.fieldLink RX4 9 "SumsOver$Steps" "kinds" "[I" : Cond) ∈ wsX4_inLoop := by decide +kernel
def rmX4_inLoop : Room := { frames := 0, cells := 0, slots := 0, locals := 0 }
def iX4_inLoop_L4 (p : Program) (l : Launch) (e : Env) (s : State) (m : MethodId) (args : Array Value) (below : List Frame) (meth : Method) (c : Code) (A : Nat → Prop) (dC : Nat → ClassId) (dI : Nat → Nat → Nat) (q : Nat → Nat) (cI cJ cZ : ClassId) (nr : Int32) (wd : Nat → Int32) (sg : Nat → Int32) (lw : Nat → Int64) (hg : Nat → Int64) (fr : Nat → Int32) (to : Nat → Int32) (sn : Int32) (pl : Int32) (kd : Nat → Int32) (tg : Nat → Int32) (sa : Nat → Int32) (sb : Nat → Int32) (bn : Nat → Int32) (mt : Nat → Int32) (pa : Nat → Int32) (ob : Int32) (tb : Int32) (fo : Int32) (rv : Nat → Int64) (ro : Int32) (tk : Int32) (ov : Nat → Int32) (sh : Nat → Int32) (tu : Nat → Int32) (rk : Int32) (cb : Int32) (rlo : Int64) (rhi : Int64) (rl : Nat → Int64) (rg : Nat → Int64) (tf : Int32) (kn : Int32) (tl : Nat → Int64) (th : Nat → Int64) (tv : Nat → Int64)  (RES : Int32) (k : (Int32) → (Int32) → Option (Int32)) : Prop := ∀ (x1 : Int32) (x2 : Int32) (H : Heap) (locs : List Loc) (ls : Array Slot), va_P (dC, dI) vwCl (wC q cI cJ cZ nr wd sg lw hg fr to sn pl kd tg sa sb bn mt pa ob tb fo rv ro tk ov sh tu rk cb rlo rhi rl rg tf kn tl th tv) H → va_D A (wC q cI cJ cZ nr wd sg lw hg fr to sn pl kd tg sa sb bn mt pa ob tb fo rv ro tk ov sh tu rk cb rlo rhi rl rg tf kn tl th tv) → va_S A s.heap H locs → lv_has ls 3 [(0, .ref (q 9)), (1, .int x1), (2, .int x2)] → k x1 x2 = some RES → W p l e rmX4_inLoop s m args below meth c H locs 0 0 (QI below args s A (dC, dI) (ty3 cI cJ cZ) RES (wC q cI cJ cZ nr wd sg lw hg fr to sn pl kd tg sa sb bn mt pa ob tb fo rv ro tk ov sh tu rk cb rlo rhi rl rg tf kn tl th tv)) (F0 m 4 ls [])
set_option maxHeartbeats 4000000 in
set_option maxRecDepth 100000 in
theorem zX4_inLoop_L4 {p : Program} {l : Launch} {e : Env} {s : State} {m : MethodId} {args : Array Value} {below : List Frame} {meth : Method} {c : Code} {A : Nat → Prop} {dC : Nat → ClassId} {dI : Nat → Nat → Nat} {q : Nat → Nat} {cI cJ cZ : ClassId} {nr : Int32} {wd : Nat → Int32} {sg : Nat → Int32} {lw : Nat → Int64} {hg : Nat → Int64} {fr : Nat → Int32} {to : Nat → Int32} {sn : Int32} {pl : Int32} {kd : Nat → Int32} {tg : Nat → Int32} {sa : Nat → Int32} {sb : Nat → Int32} {bn : Nat → Int32} {mt : Nat → Int32} {pa : Nat → Int32} {ob : Int32} {tb : Int32} {fo : Int32} {rv : Nat → Int64} {ro : Int32} {tk : Int32} {ov : Nat → Int32} {sh : Nat → Int32} {tu : Nat → Int32} {rk : Int32} {cb : Int32} {rlo : Int64} {rhi : Int64} {rl : Nat → Int64} {rg : Nat → Int64} {tf : Int32} {kn : Int32} {tl : Nat → Int64} {th : Nat → Int64} {tv : Nat → Int64}  (C0 : Cx p s m args meth c cX4_inLoop 3 (some .boolean) RX4 wsX4_inLoop A (dC, dI) (ty3 cI cJ cZ)) {RES : Int32}  : ∀ n : Nat, iX4_inLoop_L4 p l e s m args below meth c A dC dI q cI cJ cZ nr wd sg lw hg fr to sn pl kd tg sa sb bn mt pa ob tb fo rv ro tk ov sh tu rk cb rlo rhi rl rg tf kn tl th tv RES (mX4_inLoop_L4 sn kd n) := by
  have C1 := C0
  obtain ⟨hx, hb, hr, hml, hown, hts, hlocks, hN, hK, hA⟩ := C1
  intro n
  induction n with
  | zero =>
    intro x1 x2 H locs ls hP hD hS hl hres
    exact mi_0 hres
  | succ n ih =>
    intro x1 x2 H locs ls hP hD hS hl hres
    rw [mX4_inLoop_L4] at hres
    refine lv_iload_n hx hb dX4_inLoop_4 rfl (lv_at hl 2 rfl) ?_
    refine lv_aload_n hx hb dX4_inLoop_5 rfl (lv_at hl 0 rfl) ?_
    refine va_get (D := (dC, dI)) (ci := 4) (v := .int sn) (C := RX4) (T := TX4) (N := 9) hx hb hts hwX4_inLoop_RX4 hown hK hP 9 rfl rfl 6 (by decide) (hts _ mwX4_inLoop_0) (fun _ h9 => h9) rfl dX4_inLoop_6 ?_
    refine lv_icmp_ge (tgt := 47) hx hb dX4_inLoop_9 (by decide) (fun c_1 => ?_) (fun c_1 => ?_)
    · replace hres := mi_p c_1 hres
      refine lv_iload_n hx hb dX4_inLoop_47 rfl (lv_at hl 1 rfl) ?_
      obtain ⟨g_2, hres⟩ := mi_g hres
      obtain rfl := Option.some.inj hres
      exact ret_I (r := x1) C0 (narrow_z (Decidable.not_not.mp g_2)) hP hD hS dX4_inLoop_48
    · replace hres := mi_n c_1 hres
      refine lv_aload_n hx hb dX4_inLoop_12 rfl (lv_at hl 0 rfl) ?_
      refine va_get (D := (dC, dI)) (ci := 4) (v := .ref (q 10)) (C := RX4) (T := TX4) (N := 9) hx hb hts hwX4_inLoop_RX4 hown hK hP 9 rfl rfl 0 (by decide) (hts _ mwX4_inLoop_1) (fun _ h9 => h9) rfl dX4_inLoop_13 ?_
      refine lv_iload_n hx hb dX4_inLoop_16 rfl (lv_at hl 2 rfl) ?_
      obtain ⟨g_3, hres⟩ := mi_g hres
      refine va_iald (D := (dC, dI)) (cl := vwCl) hx hb hK hP 10 0 rfl rfl g_3 dX4_inLoop_17 ?_
      refine lv_bipush (v := (8 : Int32)) hx hb dX4_inLoop_18 (by decide) ?_
      refine lv_icmp_ne (tgt := 28) hx hb dX4_inLoop_20 (by decide) (fun c_4 => ?_) (fun c_4 => ?_)
      · replace hres := mi_n c_4 hres
        refine lv_aload_n hx hb dX4_inLoop_28 rfl (lv_at hl 0 rfl) ?_
        refine va_get (D := (dC, dI)) (ci := 4) (v := .ref (q 10)) (C := RX4) (T := TX4) (N := 9) hx hb hts hwX4_inLoop_RX4 hown hK hP 9 rfl rfl 0 (by decide) (hts _ mwX4_inLoop_1) (fun _ h9 => h9) rfl dX4_inLoop_29 ?_
        refine lv_iload_n hx hb dX4_inLoop_32 rfl (lv_at hl 2 rfl) ?_
        refine va_iald (D := (dC, dI)) (cl := vwCl) hx hb hK hP 10 0 rfl rfl g_3 dX4_inLoop_33 ?_
        refine lv_bipush (v := (9 : Int32)) hx hb dX4_inLoop_34 (by decide) ?_
        refine lv_icmp_ne (tgt := 41) hx hb dX4_inLoop_36 (by decide) (fun c_5 => ?_) (fun c_5 => ?_)
        · replace hres := mi_n c_5 hres
          refine lv_iinc (v := x2 + (1 : Int32)) (lv' := [(2, .int (x2 + (1 : Int32))), (0, .ref (q 9)), (1, .int x1)]) hx hb dX4_inLoop_41 hl (k := 2) rfl rfl (by decide) rfl (fun ls hl => ?_)
          refine lv_goto (tgt := 4) hx hb dX4_inLoop_44 (by decide) ?_
          exact ih x1 (x2 + (1 : Int32)) _ _ ls hP hD hS (lv_sub hl [1, 2, 0] rfl) hres
        · replace hres := mi_p c_5 hres
          refine lv_iconst (v := (0 : Int32)) hx hb dX4_inLoop_39 (by decide) ?_
          refine lv_istore_n (lv' := [(1, .int (0 : Int32)), (0, .ref (q 9)), (2, .int x2)]) hx hb dX4_inLoop_40 rfl hl (by decide) rfl (fun ls hl => ?_)
          refine lv_iinc (v := x2 + (1 : Int32)) (lv' := [(2, .int (x2 + (1 : Int32))), (1, .int (0 : Int32)), (0, .ref (q 9))]) hx hb dX4_inLoop_41 hl (k := 2) rfl rfl (by decide) rfl (fun ls hl => ?_)
          refine lv_goto (tgt := 4) hx hb dX4_inLoop_44 (by decide) ?_
          exact ih (0 : Int32) (x2 + (1 : Int32)) _ _ ls hP hD hS (lv_sub hl [2, 1, 0] rfl) hres
      · replace hres := mi_p c_4 hres
        refine lv_iconst (v := (1 : Int32)) hx hb dX4_inLoop_23 (by decide) ?_
        refine lv_istore_n (lv' := [(1, .int (1 : Int32)), (0, .ref (q 9)), (2, .int x2)]) hx hb dX4_inLoop_24 rfl hl (by decide) rfl (fun ls hl => ?_)
        refine lv_goto (tgt := 41) hx hb dX4_inLoop_25 (by decide) ?_
        refine lv_iinc (v := x2 + (1 : Int32)) (lv' := [(2, .int (x2 + (1 : Int32))), (1, .int (1 : Int32)), (0, .ref (q 9))]) hx hb dX4_inLoop_41 hl (k := 2) rfl rfl (by decide) rfl (fun ls hl => ?_)
        refine lv_goto (tgt := 4) hx hb dX4_inLoop_44 (by decide) ?_
        exact ih (1 : Int32) (x2 + (1 : Int32)) _ _ ls hP hD hS (lv_sub hl [2, 1, 0] rfl) hres
set_option maxHeartbeats 4000000 in
set_option maxRecDepth 100000 in
theorem kX4_inLoop (l : Launch) (dC : Nat → ClassId) (dI : Nat → Nat → Nat) (q : Nat → Nat) (cI cJ cZ : ClassId) (nr : Int32) (wd : Nat → Int32) (sg : Nat → Int32) (lw : Nat → Int64) (hg : Nat → Int64) (fr : Nat → Int32) (to : Nat → Int32) (sn : Int32) (pl : Int32) (kd : Nat → Int32) (tg : Nat → Int32) (sa : Nat → Int32) (sb : Nat → Int32) (bn : Nat → Int32) (mt : Nat → Int32) (pa : Nat → Int32) (ob : Int32) (tb : Int32) (fo : Int32) (rv : Nat → Int64) (ro : Int32) (tk : Int32) (ov : Nat → Int32) (sh : Nat → Int32) (tu : Nat → Int32) (rk : Int32) (cb : Int32) (rlo : Int64) (rhi : Int64) (rl : Nat → Int64) (rg : Nat → Int64) (tf : Int32) (kn : Int32) (tl : Nat → Int64) (th : Nat → Int64) (tv : Nat → Int64)  (RES : Int32) (hres : mX4_inLoop sn kd = some RES) : CtI l yX4_inLoop wsX4_inLoop rmX4_inLoop (dC, dI) (ty3 cI cJ cZ) (wC q cI cJ cZ nr wd sg lw hg fr to sn pl kd tg sa sb bn mt pa ob tb fo rv ro tk ov sh tu rk cb rlo rhi rl rg tf kn tl th tv) [.ref (q 9)] RES (wC q cI cJ cZ nr wd sg lw hg fr to sn pl kd tg sa sb bn mt pa ob tb fo rv ro tk ov sh tu rk cb rlo rhi rl rg tf kn tl th tv) := by
  intro sz
  refine ct_entry (cc := cX4_inLoop) (maxL := 3) (ret := some .boolean) (own := RX4) (by decide) rfl rfl (Nat.le_of_ble_eq_true rfl) (ll := [(0, .ref (q 9))]) rfl ?_
  intro p e s m args below meth c hsz C0 _ hP hD ls hl
  have C1 := C0
  obtain ⟨hx, hb, hr, hml, hown, hts, hlocks, hN, hK, hA⟩ := C1
  have hS : va_S (va_A (wC q cI cJ cZ nr wd sg lw hg fr to sn pl kd tg sa sb bn mt pa ob tb fo rv ro tk ov sh tu rk cb rlo rhi rl rg tf kn tl th tv) sz) s.heap s.heap [] := va_S.rf
  generalize va_A (wC q cI cJ cZ nr wd sg lw hg fr to sn pl kd tg sa sb bn mt pa ob tb fo rv ro tk ov sh tu rk cb rlo rhi rl rg tf kn tl th tv) sz = A at C0 hD hA hS ⊢
  show W p l e rmX4_inLoop s m args below meth c s.heap [] 0 0 (QI below args s A (dC, dI) (ty3 cI cJ cZ) RES (wC q cI cJ cZ nr wd sg lw hg fr to sn pl kd tg sa sb bn mt pa ob tb fo rv ro tk ov sh tu rk cb rlo rhi rl rg tf kn tl th tv)) (F0 m 0 ls [])
  unfold mX4_inLoop at hres
  refine lv_iconst (v := (0 : Int32)) hx hb dX4_inLoop_0 (by decide) ?_
  refine lv_istore_n (lv' := [(1, .int (0 : Int32)), (0, .ref (q 9))]) hx hb dX4_inLoop_1 rfl hl (by decide) rfl (fun ls hl => ?_)
  refine lv_iconst (v := (0 : Int32)) hx hb dX4_inLoop_2 (by decide) ?_
  refine lv_istore_n (lv' := [(2, .int (0 : Int32)), (1, .int (0 : Int32)), (0, .ref (q 9))]) hx hb dX4_inLoop_3 rfl hl (by decide) rfl (fun ls hl => ?_)
  exact zX4_inLoop_L4 C0  FU (0 : Int32) (0 : Int32) _ _ ls hP hD hS (lv_sub hl [2, 1, 0] rfl) hres
/-! ### SumsOver$Steps.marks()I -/
set_option maxRecDepth 20000 in
theorem hwX4_marks_RX4 : ∀ w ∈ u_ws RX4 TX4 9, w ∈ wsX4_marks := by decide +kernel
theorem mwX4_marks_0 : (.fieldLink RX4 34 "SumsOver$Steps" "size" "I" : Cond) ∈ wsX4_marks := by decide +kernel
theorem mwX4_marks_1 : (.fieldLink RX4 28 "SumsOver$Steps" "meant" "[Z" : Cond) ∈ wsX4_marks := by decide +kernel
def rmX4_marks : Room := { frames := 0, cells := 0, slots := 0, locals := 0 }
def iX4_marks_L4 (p : Program) (l : Launch) (e : Env) (s : State) (m : MethodId) (args : Array Value) (below : List Frame) (meth : Method) (c : Code) (A : Nat → Prop) (dC : Nat → ClassId) (dI : Nat → Nat → Nat) (q : Nat → Nat) (cI cJ cZ : ClassId) (nr : Int32) (wd : Nat → Int32) (sg : Nat → Int32) (lw : Nat → Int64) (hg : Nat → Int64) (fr : Nat → Int32) (to : Nat → Int32) (sn : Int32) (pl : Int32) (kd : Nat → Int32) (tg : Nat → Int32) (sa : Nat → Int32) (sb : Nat → Int32) (bn : Nat → Int32) (mt : Nat → Int32) (pa : Nat → Int32) (ob : Int32) (tb : Int32) (fo : Int32) (rv : Nat → Int64) (ro : Int32) (tk : Int32) (ov : Nat → Int32) (sh : Nat → Int32) (tu : Nat → Int32) (rk : Int32) (cb : Int32) (rlo : Int64) (rhi : Int64) (rl : Nat → Int64) (rg : Nat → Int64) (tf : Int32) (kn : Int32) (tl : Nat → Int64) (th : Nat → Int64) (tv : Nat → Int64)  (RES : Int32) (k : (Int32) → (Int32) → Option (Int32)) : Prop := ∀ (x1 : Int32) (x2 : Int32) (H : Heap) (locs : List Loc) (ls : Array Slot), va_P (dC, dI) vwCl (wC q cI cJ cZ nr wd sg lw hg fr to sn pl kd tg sa sb bn mt pa ob tb fo rv ro tk ov sh tu rk cb rlo rhi rl rg tf kn tl th tv) H → va_D A (wC q cI cJ cZ nr wd sg lw hg fr to sn pl kd tg sa sb bn mt pa ob tb fo rv ro tk ov sh tu rk cb rlo rhi rl rg tf kn tl th tv) → va_S A s.heap H locs → lv_has ls 3 [(0, .ref (q 9)), (1, .int x1), (2, .int x2)] → k x1 x2 = some RES → W p l e rmX4_marks s m args below meth c H locs 0 0 (QI below args s A (dC, dI) (ty3 cI cJ cZ) RES (wC q cI cJ cZ nr wd sg lw hg fr to sn pl kd tg sa sb bn mt pa ob tb fo rv ro tk ov sh tu rk cb rlo rhi rl rg tf kn tl th tv)) (F0 m 4 ls [])
set_option maxHeartbeats 4000000 in
set_option maxRecDepth 100000 in
theorem zX4_marks_L4 {p : Program} {l : Launch} {e : Env} {s : State} {m : MethodId} {args : Array Value} {below : List Frame} {meth : Method} {c : Code} {A : Nat → Prop} {dC : Nat → ClassId} {dI : Nat → Nat → Nat} {q : Nat → Nat} {cI cJ cZ : ClassId} {nr : Int32} {wd : Nat → Int32} {sg : Nat → Int32} {lw : Nat → Int64} {hg : Nat → Int64} {fr : Nat → Int32} {to : Nat → Int32} {sn : Int32} {pl : Int32} {kd : Nat → Int32} {tg : Nat → Int32} {sa : Nat → Int32} {sb : Nat → Int32} {bn : Nat → Int32} {mt : Nat → Int32} {pa : Nat → Int32} {ob : Int32} {tb : Int32} {fo : Int32} {rv : Nat → Int64} {ro : Int32} {tk : Int32} {ov : Nat → Int32} {sh : Nat → Int32} {tu : Nat → Int32} {rk : Int32} {cb : Int32} {rlo : Int64} {rhi : Int64} {rl : Nat → Int64} {rg : Nat → Int64} {tf : Int32} {kn : Int32} {tl : Nat → Int64} {th : Nat → Int64} {tv : Nat → Int64}  (C0 : Cx p s m args meth c cX4_marks 3 (some .int) RX4 wsX4_marks A (dC, dI) (ty3 cI cJ cZ)) {RES : Int32}  : ∀ n : Nat, iX4_marks_L4 p l e s m args below meth c A dC dI q cI cJ cZ nr wd sg lw hg fr to sn pl kd tg sa sb bn mt pa ob tb fo rv ro tk ov sh tu rk cb rlo rhi rl rg tf kn tl th tv RES (mX4_marks_L4 sn mt n) := by
  have C1 := C0
  obtain ⟨hx, hb, hr, hml, hown, hts, hlocks, hN, hK, hA⟩ := C1
  intro n
  induction n with
  | zero =>
    intro x1 x2 H locs ls hP hD hS hl hres
    exact mi_0 hres
  | succ n ih =>
    intro x1 x2 H locs ls hP hD hS hl hres
    rw [mX4_marks_L4] at hres
    refine lv_iload_n hx hb dX4_marks_4 rfl (lv_at hl 2 rfl) ?_
    refine lv_aload_n hx hb dX4_marks_5 rfl (lv_at hl 0 rfl) ?_
    refine va_get (D := (dC, dI)) (ci := 4) (v := .int sn) (C := RX4) (T := TX4) (N := 9) hx hb hts hwX4_marks_RX4 hown hK hP 9 rfl rfl 6 (by decide) (hts _ mwX4_marks_0) (fun _ h9 => h9) rfl dX4_marks_6 ?_
    refine lv_icmp_ge (tgt := 30) hx hb dX4_marks_9 (by decide) (fun c_1 => ?_) (fun c_1 => ?_)
    · replace hres := mi_p c_1 hres
      refine lv_iload_n hx hb dX4_marks_30 rfl (lv_at hl 1 rfl) ?_
      obtain rfl := Option.some.inj hres
      exact ret_I (r := x1) C0 rfl hP hD hS dX4_marks_31
    · replace hres := mi_n c_1 hres
      refine lv_aload_n hx hb dX4_marks_12 rfl (lv_at hl 0 rfl) ?_
      refine va_get (D := (dC, dI)) (ci := 4) (v := .ref (q 15)) (C := RX4) (T := TX4) (N := 9) hx hb hts hwX4_marks_RX4 hown hK hP 9 rfl rfl 5 (by decide) (hts _ mwX4_marks_1) (fun _ h9 => h9) rfl dX4_marks_13 ?_
      refine lv_iload_n hx hb dX4_marks_16 rfl (lv_at hl 2 rfl) ?_
      obtain ⟨g_2, hres⟩ := mi_g hres
      refine va_zald (D := (dC, dI)) (cl := vwCl) hx hb hK hP 15 2 rfl rfl g_2 dX4_marks_17 ?_
      refine lv_if_eq (tgt := 24) hx hb dX4_marks_18 (by decide) (fun c_3 => ?_) (fun c_3 => ?_)
      · replace hres := mi_p c_3 hres
        refine lv_iinc (v := x2 + (1 : Int32)) (lv' := [(2, .int (x2 + (1 : Int32))), (0, .ref (q 9)), (1, .int x1)]) hx hb dX4_marks_24 hl (k := 2) rfl rfl (by decide) rfl (fun ls hl => ?_)
        refine lv_goto (tgt := 4) hx hb dX4_marks_27 (by decide) ?_
        exact ih x1 (x2 + (1 : Int32)) _ _ ls hP hD hS (lv_sub hl [1, 2, 0] rfl) hres
      · replace hres := mi_n c_3 hres
        refine lv_iinc (v := x1 + (1 : Int32)) (lv' := [(1, .int (x1 + (1 : Int32))), (0, .ref (q 9)), (2, .int x2)]) hx hb dX4_marks_21 hl (k := 1) rfl rfl (by decide) rfl (fun ls hl => ?_)
        refine lv_iinc (v := x2 + (1 : Int32)) (lv' := [(2, .int (x2 + (1 : Int32))), (1, .int (x1 + (1 : Int32))), (0, .ref (q 9))]) hx hb dX4_marks_24 hl (k := 2) rfl rfl (by decide) rfl (fun ls hl => ?_)
        refine lv_goto (tgt := 4) hx hb dX4_marks_27 (by decide) ?_
        exact ih (x1 + (1 : Int32)) (x2 + (1 : Int32)) _ _ ls hP hD hS (lv_sub hl [2, 1, 0] rfl) hres
set_option maxHeartbeats 4000000 in
set_option maxRecDepth 100000 in
theorem kX4_marks (l : Launch) (dC : Nat → ClassId) (dI : Nat → Nat → Nat) (q : Nat → Nat) (cI cJ cZ : ClassId) (nr : Int32) (wd : Nat → Int32) (sg : Nat → Int32) (lw : Nat → Int64) (hg : Nat → Int64) (fr : Nat → Int32) (to : Nat → Int32) (sn : Int32) (pl : Int32) (kd : Nat → Int32) (tg : Nat → Int32) (sa : Nat → Int32) (sb : Nat → Int32) (bn : Nat → Int32) (mt : Nat → Int32) (pa : Nat → Int32) (ob : Int32) (tb : Int32) (fo : Int32) (rv : Nat → Int64) (ro : Int32) (tk : Int32) (ov : Nat → Int32) (sh : Nat → Int32) (tu : Nat → Int32) (rk : Int32) (cb : Int32) (rlo : Int64) (rhi : Int64) (rl : Nat → Int64) (rg : Nat → Int64) (tf : Int32) (kn : Int32) (tl : Nat → Int64) (th : Nat → Int64) (tv : Nat → Int64)  (RES : Int32) (hres : mX4_marks sn mt = some RES) : CtI l yX4_marks wsX4_marks rmX4_marks (dC, dI) (ty3 cI cJ cZ) (wC q cI cJ cZ nr wd sg lw hg fr to sn pl kd tg sa sb bn mt pa ob tb fo rv ro tk ov sh tu rk cb rlo rhi rl rg tf kn tl th tv) [.ref (q 9)] RES (wC q cI cJ cZ nr wd sg lw hg fr to sn pl kd tg sa sb bn mt pa ob tb fo rv ro tk ov sh tu rk cb rlo rhi rl rg tf kn tl th tv) := by
  intro sz
  refine ct_entry (cc := cX4_marks) (maxL := 3) (ret := some .int) (own := RX4) (by decide) rfl rfl (Nat.le_of_ble_eq_true rfl) (ll := [(0, .ref (q 9))]) rfl ?_
  intro p e s m args below meth c hsz C0 _ hP hD ls hl
  have C1 := C0
  obtain ⟨hx, hb, hr, hml, hown, hts, hlocks, hN, hK, hA⟩ := C1
  have hS : va_S (va_A (wC q cI cJ cZ nr wd sg lw hg fr to sn pl kd tg sa sb bn mt pa ob tb fo rv ro tk ov sh tu rk cb rlo rhi rl rg tf kn tl th tv) sz) s.heap s.heap [] := va_S.rf
  generalize va_A (wC q cI cJ cZ nr wd sg lw hg fr to sn pl kd tg sa sb bn mt pa ob tb fo rv ro tk ov sh tu rk cb rlo rhi rl rg tf kn tl th tv) sz = A at C0 hD hA hS ⊢
  show W p l e rmX4_marks s m args below meth c s.heap [] 0 0 (QI below args s A (dC, dI) (ty3 cI cJ cZ) RES (wC q cI cJ cZ nr wd sg lw hg fr to sn pl kd tg sa sb bn mt pa ob tb fo rv ro tk ov sh tu rk cb rlo rhi rl rg tf kn tl th tv)) (F0 m 0 ls [])
  unfold mX4_marks at hres
  refine lv_iconst (v := (0 : Int32)) hx hb dX4_marks_0 (by decide) ?_
  refine lv_istore_n (lv' := [(1, .int (0 : Int32)), (0, .ref (q 9))]) hx hb dX4_marks_1 rfl hl (by decide) rfl (fun ls hl => ?_)
  refine lv_iconst (v := (0 : Int32)) hx hb dX4_marks_2 (by decide) ?_
  refine lv_istore_n (lv' := [(2, .int (0 : Int32)), (1, .int (0 : Int32)), (0, .ref (q 9))]) hx hb dX4_marks_3 rfl hl (by decide) rfl (fun ls hl => ?_)
  exact zX4_marks_L4 C0  FU (0 : Int32) (0 : Int32) _ _ ls hP hD hS (lv_sub hl [2, 1, 0] rfl) hres
/-! ### SumsOver$Tally.noteOver(II)V -/
set_option maxRecDepth 20000 in
theorem hwX5_noteOver_RX5 : ∀ w ∈ u_ws RX5 TX5 7, w ∈ wsX5_noteOver := by decide +kernel
theorem mwX5_noteOver_0 : (.fieldLink RX5 9 "SumsOver$Tally" "over" "[I" : Cond) ∈ wsX5_noteOver := by decide +kernel
theorem mwX5_noteOver_1 : (.fieldLink RX5 15 "SumsOver$Tally" "shown" "[I" : Cond) ∈ wsX5_noteOver := by decide +kernel
def rmX5_noteOver : Room := { frames := 0, cells := 0, slots := 0, locals := 0 }
def iX5_noteOver_L2 (p : Program) (l : Launch) (e : Env) (s : State) (m : MethodId) (args : Array Value) (below : List Frame) (meth : Method) (c : Code) (A : Nat → Prop) (dC : Nat → ClassId) (dI : Nat → Nat → Nat) (q : Nat → Nat) (cI cJ cZ : ClassId) (nr : Int32) (wd : Nat → Int32) (sg : Nat → Int32) (lw : Nat → Int64) (hg : Nat → Int64) (fr : Nat → Int32) (to : Nat → Int32) (sn : Int32) (pl : Int32) (kd : Nat → Int32) (tg : Nat → Int32) (sa : Nat → Int32) (sb : Nat → Int32) (bn : Nat → Int32) (mt : Nat → Int32) (pa : Nat → Int32) (ob : Int32) (tb : Int32) (fo : Int32) (rv : Nat → Int64) (ro : Int32) (tk : Int32) (tu : Nat → Int32) (rk : Int32) (cb : Int32) (rlo : Int64) (rhi : Int64) (rl : Nat → Int64) (rg : Nat → Int64) (tf : Int32) (kn : Int32) (tl : Nat → Int64) (th : Nat → Int64) (tv : Nat → Int64)  (RES : (Nat → Int32) × (Nat → Int32)) (k : (Nat → Int32) → (Nat → Int32) → (Int32) → (Int32) → (Int32) → Option ((Nat → Int32) × (Nat → Int32))) : Prop := ∀ (ov : Nat → Int32) (sh : Nat → Int32) (x1 : Int32) (x2 : Int32) (x3 : Int32) (H : Heap) (locs : List Loc) (ls : Array Slot), va_P (dC, dI) vwCl (wC q cI cJ cZ nr wd sg lw hg fr to sn pl kd tg sa sb bn mt pa ob tb fo rv ro tk ov sh tu rk cb rlo rhi rl rg tf kn tl th tv) H → va_D A (wC q cI cJ cZ nr wd sg lw hg fr to sn pl kd tg sa sb bn mt pa ob tb fo rv ro tk ov sh tu rk cb rlo rhi rl rg tf kn tl th tv) → va_S A s.heap H locs → lv_has ls 4 [(0, .ref (q 19)), (1, .int x1), (2, .int x2), (3, .int x3)] → k ov sh x1 x2 x3 = some RES → W p l e rmX5_noteOver s m args below meth c H locs 0 0 (QV below args s A (dC, dI) (ty3 cI cJ cZ) (wC q cI cJ cZ nr wd sg lw hg fr to sn pl kd tg sa sb bn mt pa ob tb fo rv ro tk RES.1 RES.2 tu rk cb rlo rhi rl rg tf kn tl th tv)) (F0 m 2 ls [])
set_option maxHeartbeats 4000000 in
set_option maxRecDepth 100000 in
theorem zX5_noteOver_L2 {p : Program} {l : Launch} {e : Env} {s : State} {m : MethodId} {args : Array Value} {below : List Frame} {meth : Method} {c : Code} {A : Nat → Prop} {dC : Nat → ClassId} {dI : Nat → Nat → Nat} {q : Nat → Nat} {cI cJ cZ : ClassId} {nr : Int32} {wd : Nat → Int32} {sg : Nat → Int32} {lw : Nat → Int64} {hg : Nat → Int64} {fr : Nat → Int32} {to : Nat → Int32} {sn : Int32} {pl : Int32} {kd : Nat → Int32} {tg : Nat → Int32} {sa : Nat → Int32} {sb : Nat → Int32} {bn : Nat → Int32} {mt : Nat → Int32} {pa : Nat → Int32} {ob : Int32} {tb : Int32} {fo : Int32} {rv : Nat → Int64} {ro : Int32} {tk : Int32} {tu : Nat → Int32} {rk : Int32} {cb : Int32} {rlo : Int64} {rhi : Int64} {rl : Nat → Int64} {rg : Nat → Int64} {tf : Int32} {kn : Int32} {tl : Nat → Int64} {th : Nat → Int64} {tv : Nat → Int64}  (C0 : Cx p s m args meth c cX5_noteOver 4 none RX5 wsX5_noteOver A (dC, dI) (ty3 cI cJ cZ)) {RES : (Nat → Int32) × (Nat → Int32)}  : ∀ n : Nat, iX5_noteOver_L2 p l e s m args below meth c A dC dI q cI cJ cZ nr wd sg lw hg fr to sn pl kd tg sa sb bn mt pa ob tb fo rv ro tk tu rk cb rlo rhi rl rg tf kn tl th tv RES (mX5_noteOver_L2  n) := by
  have C1 := C0
  obtain ⟨hx, hb, hr, hml, hown, hts, hlocks, hN, hK, hA⟩ := C1
  intro n
  induction n with
  | zero =>
    intro ov sh x1 x2 x3 H locs ls hP hD hS hl hres
    exact mi_0 hres
  | succ n ih =>
    intro ov sh x1 x2 x3 H locs ls hP hD hS hl hres
    rw [mX5_noteOver_L2] at hres
    refine lv_iload_n hx hb dX5_noteOver_2 rfl (lv_at hl 3 rfl) ?_
    refine lv_bipush (v := (24 : Int32)) hx hb dX5_noteOver_3 (by decide) ?_
    refine lv_icmp_ge (tgt := 49) hx hb dX5_noteOver_5 (by decide) (fun c_1 => ?_) (fun c_1 => ?_)
    · replace hres := mi_p c_1 hres
      obtain rfl := Option.some.inj hres
      exact ret_V C0 hP hD hS dX5_noteOver_49
    · replace hres := mi_n c_1 hres
      refine lv_iload_n hx hb dX5_noteOver_8 rfl (lv_at hl 1 rfl) ?_
      refine lv_iload_n hx hb dX5_noteOver_9 rfl (lv_at hl 3 rfl) ?_
      refine lv_ishr hx hb dX5_noteOver_10 ?_
      refine lv_iconst (v := (1 : Int32)) hx hb dX5_noteOver_11 (by decide) ?_
      refine lv_iand hx hb dX5_noteOver_12 ?_
      refine lv_iconst (v := (1 : Int32)) hx hb dX5_noteOver_13 (by decide) ?_
      refine lv_icmp_ne (tgt := 43) hx hb dX5_noteOver_14 (by decide) (fun c_2 => ?_) (fun c_2 => ?_)
      · replace hres := mi_n c_2 hres
        refine lv_iinc (v := x3 + (1 : Int32)) (lv' := [(3, .int (x3 + (1 : Int32))), (0, .ref (q 19)), (1, .int x1), (2, .int x2)]) hx hb dX5_noteOver_43 hl (k := 3) rfl rfl (by decide) rfl (fun ls hl => ?_)
        refine lv_goto (tgt := 2) hx hb dX5_noteOver_46 (by decide) ?_
        exact ih ov sh x1 x2 (x3 + (1 : Int32)) _ _ ls hP hD hS (lv_sub hl [1, 2, 3, 0] rfl) hres
      · replace hres := mi_p c_2 hres
        refine lv_aload_n hx hb dX5_noteOver_17 rfl (lv_at hl 0 rfl) ?_
        refine va_get (D := (dC, dI)) (ci := 5) (v := .ref (q 20)) (C := RX5) (T := TX5) (N := 7) hx hb hts hwX5_noteOver_RX5 hown hK hP 19 rfl rfl 0 (by decide) (hts _ mwX5_noteOver_0) (fun _ h9 => h9) rfl dX5_noteOver_18 ?_
        refine lv_iload_n hx hb dX5_noteOver_21 rfl (lv_at hl 3 rfl) ?_
        obtain ⟨g_3, hres⟩ := mi_g hres
        refine va_iald (D := (dC, dI)) (cl := vwCl) hx hb hK hP 20 0 rfl rfl g_3 dX5_noteOver_22 ?_
        refine lv_if_ne (tgt := 33) hx hb dX5_noteOver_23 (by decide) (fun c_4 => ?_) (fun c_4 => ?_)
        · replace hres := mi_n c_4 hres
          refine lv_aload_n hx hb dX5_noteOver_33 rfl (lv_at hl 0 rfl) ?_
          refine va_get (D := (dC, dI)) (ci := 5) (v := .ref (q 20)) (C := RX5) (T := TX5) (N := 7) hx hb hts hwX5_noteOver_RX5 hown hK hP 19 rfl rfl 0 (by decide) (hts _ mwX5_noteOver_0) (fun _ h9 => h9) rfl dX5_noteOver_34 ?_
          refine lv_iload_n hx hb dX5_noteOver_37 rfl (lv_at hl 3 rfl) ?_
          refine lv_dup2_11 hx hb dX5_noteOver_38 rfl rfl ?_
          refine va_iald (D := (dC, dI)) (cl := vwCl) hx hb hK hP 20 0 rfl rfl g_3 dX5_noteOver_39 ?_
          refine lv_iconst (v := (1 : Int32)) hx hb dX5_noteOver_40 (by decide) ?_
          refine lv_iadd hx hb dX5_noteOver_41 ?_
          refine va_iast (D := (dC, dI)) (cl := vwCl) hx hb hK hP hD hS 20 0 rfl rfl g_3 dX5_noteOver_42 (fun H locs hP hD hS => ?_)
          have hP : va_P (dC, dI) vwCl (wC q cI cJ cZ nr wd sg lw hg fr to sn pl kd tg sa sb bn mt pa ob tb fo rv ro tk (upd ov (Int32.toNatClampNeg x3) ((ov (Int32.toNatClampNeg x3)) + (1 : Int32))) sh tu rk cb rlo rhi rl rg tf kn tl th tv) H := hP
          have hD : va_D A (wC q cI cJ cZ nr wd sg lw hg fr to sn pl kd tg sa sb bn mt pa ob tb fo rv ro tk (upd ov (Int32.toNatClampNeg x3) ((ov (Int32.toNatClampNeg x3)) + (1 : Int32))) sh tu rk cb rlo rhi rl rg tf kn tl th tv) := hD
          refine lv_iinc (v := x3 + (1 : Int32)) (lv' := [(3, .int (x3 + (1 : Int32))), (0, .ref (q 19)), (1, .int x1), (2, .int x2)]) hx hb dX5_noteOver_43 hl (k := 3) rfl rfl (by decide) rfl (fun ls hl => ?_)
          refine lv_goto (tgt := 2) hx hb dX5_noteOver_46 (by decide) ?_
          exact ih (upd ov (Int32.toNatClampNeg x3) ((ov (Int32.toNatClampNeg x3)) + (1 : Int32))) sh x1 x2 (x3 + (1 : Int32)) _ _ ls hP hD hS (lv_sub hl [1, 2, 3, 0] rfl) hres
        · replace hres := mi_p c_4 hres
          refine lv_aload_n hx hb dX5_noteOver_26 rfl (lv_at hl 0 rfl) ?_
          refine va_get (D := (dC, dI)) (ci := 5) (v := .ref (q 21)) (C := RX5) (T := TX5) (N := 7) hx hb hts hwX5_noteOver_RX5 hown hK hP 19 rfl rfl 1 (by decide) (hts _ mwX5_noteOver_1) (fun _ h9 => h9) rfl dX5_noteOver_27 ?_
          refine lv_iload_n hx hb dX5_noteOver_30 rfl (lv_at hl 3 rfl) ?_
          refine lv_iload_n hx hb dX5_noteOver_31 rfl (lv_at hl 2 rfl) ?_
          refine va_iast (D := (dC, dI)) (cl := vwCl) hx hb hK hP hD hS 21 0 rfl rfl g_3 dX5_noteOver_32 (fun H locs hP hD hS => ?_)
          have hP : va_P (dC, dI) vwCl (wC q cI cJ cZ nr wd sg lw hg fr to sn pl kd tg sa sb bn mt pa ob tb fo rv ro tk ov (upd sh (Int32.toNatClampNeg x3) x2) tu rk cb rlo rhi rl rg tf kn tl th tv) H := hP
          have hD : va_D A (wC q cI cJ cZ nr wd sg lw hg fr to sn pl kd tg sa sb bn mt pa ob tb fo rv ro tk ov (upd sh (Int32.toNatClampNeg x3) x2) tu rk cb rlo rhi rl rg tf kn tl th tv) := hD
          refine lv_aload_n hx hb dX5_noteOver_33 rfl (lv_at hl 0 rfl) ?_
          refine va_get (D := (dC, dI)) (ci := 5) (v := .ref (q 20)) (C := RX5) (T := TX5) (N := 7) hx hb hts hwX5_noteOver_RX5 hown hK hP 19 rfl rfl 0 (by decide) (hts _ mwX5_noteOver_0) (fun _ h9 => h9) rfl dX5_noteOver_34 ?_
          refine lv_iload_n hx hb dX5_noteOver_37 rfl (lv_at hl 3 rfl) ?_
          refine lv_dup2_11 hx hb dX5_noteOver_38 rfl rfl ?_
          refine va_iald (D := (dC, dI)) (cl := vwCl) hx hb hK hP 20 0 rfl rfl g_3 dX5_noteOver_39 ?_
          refine lv_iconst (v := (1 : Int32)) hx hb dX5_noteOver_40 (by decide) ?_
          refine lv_iadd hx hb dX5_noteOver_41 ?_
          refine va_iast (D := (dC, dI)) (cl := vwCl) hx hb hK hP hD hS 20 0 rfl rfl g_3 dX5_noteOver_42 (fun H locs hP hD hS => ?_)
          have hP : va_P (dC, dI) vwCl (wC q cI cJ cZ nr wd sg lw hg fr to sn pl kd tg sa sb bn mt pa ob tb fo rv ro tk (upd ov (Int32.toNatClampNeg x3) ((ov (Int32.toNatClampNeg x3)) + (1 : Int32))) (upd sh (Int32.toNatClampNeg x3) x2) tu rk cb rlo rhi rl rg tf kn tl th tv) H := hP
          have hD : va_D A (wC q cI cJ cZ nr wd sg lw hg fr to sn pl kd tg sa sb bn mt pa ob tb fo rv ro tk (upd ov (Int32.toNatClampNeg x3) ((ov (Int32.toNatClampNeg x3)) + (1 : Int32))) (upd sh (Int32.toNatClampNeg x3) x2) tu rk cb rlo rhi rl rg tf kn tl th tv) := hD
          refine lv_iinc (v := x3 + (1 : Int32)) (lv' := [(3, .int (x3 + (1 : Int32))), (0, .ref (q 19)), (1, .int x1), (2, .int x2)]) hx hb dX5_noteOver_43 hl (k := 3) rfl rfl (by decide) rfl (fun ls hl => ?_)
          refine lv_goto (tgt := 2) hx hb dX5_noteOver_46 (by decide) ?_
          exact ih (upd ov (Int32.toNatClampNeg x3) ((ov (Int32.toNatClampNeg x3)) + (1 : Int32))) (upd sh (Int32.toNatClampNeg x3) x2) x1 x2 (x3 + (1 : Int32)) _ _ ls hP hD hS (lv_sub hl [1, 2, 3, 0] rfl) hres
set_option maxHeartbeats 4000000 in
set_option maxRecDepth 100000 in
theorem kX5_noteOver (l : Launch) (dC : Nat → ClassId) (dI : Nat → Nat → Nat) (q : Nat → Nat) (cI cJ cZ : ClassId) (nr : Int32) (wd : Nat → Int32) (sg : Nat → Int32) (lw : Nat → Int64) (hg : Nat → Int64) (fr : Nat → Int32) (to : Nat → Int32) (sn : Int32) (pl : Int32) (kd : Nat → Int32) (tg : Nat → Int32) (sa : Nat → Int32) (sb : Nat → Int32) (bn : Nat → Int32) (mt : Nat → Int32) (pa : Nat → Int32) (ob : Int32) (tb : Int32) (fo : Int32) (rv : Nat → Int64) (ro : Int32) (tk : Int32) (ov : Nat → Int32) (sh : Nat → Int32) (tu : Nat → Int32) (rk : Int32) (cb : Int32) (rlo : Int64) (rhi : Int64) (rl : Nat → Int64) (rg : Nat → Int64) (tf : Int32) (kn : Int32) (tl : Nat → Int64) (th : Nat → Int64) (tv : Nat → Int64) (x1 : Int32) (x2 : Int32) (RES : (Nat → Int32) × (Nat → Int32)) (hres : mX5_noteOver ov sh x1 x2 = some RES) : CtV l yX5_noteOver wsX5_noteOver rmX5_noteOver (dC, dI) (ty3 cI cJ cZ) (wC q cI cJ cZ nr wd sg lw hg fr to sn pl kd tg sa sb bn mt pa ob tb fo rv ro tk ov sh tu rk cb rlo rhi rl rg tf kn tl th tv) [.ref (q 19), .int x1, .int x2] (wC q cI cJ cZ nr wd sg lw hg fr to sn pl kd tg sa sb bn mt pa ob tb fo rv ro tk RES.1 RES.2 tu rk cb rlo rhi rl rg tf kn tl th tv) := by
  intro sz
  refine ct_entry (cc := cX5_noteOver) (maxL := 4) (ret := none) (own := RX5) (by decide) rfl rfl (Nat.le_of_ble_eq_true rfl) (ll := [(0, .ref (q 19)), (1, .int x1), (2, .int x2)]) rfl ?_
  intro p e s m args below meth c hsz C0 _ hP hD ls hl
  have C1 := C0
  obtain ⟨hx, hb, hr, hml, hown, hts, hlocks, hN, hK, hA⟩ := C1
  have hS : va_S (va_A (wC q cI cJ cZ nr wd sg lw hg fr to sn pl kd tg sa sb bn mt pa ob tb fo rv ro tk ov sh tu rk cb rlo rhi rl rg tf kn tl th tv) sz) s.heap s.heap [] := va_S.rf
  generalize va_A (wC q cI cJ cZ nr wd sg lw hg fr to sn pl kd tg sa sb bn mt pa ob tb fo rv ro tk ov sh tu rk cb rlo rhi rl rg tf kn tl th tv) sz = A at C0 hD hA hS ⊢
  show W p l e rmX5_noteOver s m args below meth c s.heap [] 0 0 (QV below args s A (dC, dI) (ty3 cI cJ cZ) (wC q cI cJ cZ nr wd sg lw hg fr to sn pl kd tg sa sb bn mt pa ob tb fo rv ro tk RES.1 RES.2 tu rk cb rlo rhi rl rg tf kn tl th tv)) (F0 m 0 ls [])
  unfold mX5_noteOver at hres
  refine lv_iconst (v := (0 : Int32)) hx hb dX5_noteOver_0 (by decide) ?_
  refine lv_istore_n (lv' := [(3, .int (0 : Int32)), (0, .ref (q 19)), (1, .int x1), (2, .int x2)]) hx hb dX5_noteOver_1 rfl hl (by decide) rfl (fun ls hl => ?_)
  exact zX5_noteOver_L2 C0  FU ov sh x1 x2 (0 : Int32) _ _ ls hP hD hS (lv_sub hl [1, 2, 3, 0] rfl) hres
/-! ### SumsOver$Tally.noteTurned(I)V -/
set_option maxRecDepth 20000 in
theorem hwX5_noteTurned_RX5 : ∀ w ∈ u_ws RX5 TX5 7, w ∈ wsX5_noteTurned := by decide +kernel
theorem mwX5_noteTurned_0 : (.fieldLink RX5 18 "SumsOver$Tally" "turned" "[I" : Cond) ∈ wsX5_noteTurned := by decide +kernel
def rmX5_noteTurned : Room := { frames := 0, cells := 0, slots := 0, locals := 0 }
def iX5_noteTurned_L2 (p : Program) (l : Launch) (e : Env) (s : State) (m : MethodId) (args : Array Value) (below : List Frame) (meth : Method) (c : Code) (A : Nat → Prop) (dC : Nat → ClassId) (dI : Nat → Nat → Nat) (q : Nat → Nat) (cI cJ cZ : ClassId) (nr : Int32) (wd : Nat → Int32) (sg : Nat → Int32) (lw : Nat → Int64) (hg : Nat → Int64) (fr : Nat → Int32) (to : Nat → Int32) (sn : Int32) (pl : Int32) (kd : Nat → Int32) (tg : Nat → Int32) (sa : Nat → Int32) (sb : Nat → Int32) (bn : Nat → Int32) (mt : Nat → Int32) (pa : Nat → Int32) (ob : Int32) (tb : Int32) (fo : Int32) (rv : Nat → Int64) (ro : Int32) (tk : Int32) (ov : Nat → Int32) (sh : Nat → Int32) (rk : Int32) (cb : Int32) (rlo : Int64) (rhi : Int64) (rl : Nat → Int64) (rg : Nat → Int64) (tf : Int32) (kn : Int32) (tl : Nat → Int64) (th : Nat → Int64) (tv : Nat → Int64)  (RES : (Nat → Int32)) (k : (Nat → Int32) → (Int32) → (Int32) → Option ((Nat → Int32))) : Prop := ∀ (tu : Nat → Int32) (x1 : Int32) (x2 : Int32) (H : Heap) (locs : List Loc) (ls : Array Slot), va_P (dC, dI) vwCl (wC q cI cJ cZ nr wd sg lw hg fr to sn pl kd tg sa sb bn mt pa ob tb fo rv ro tk ov sh tu rk cb rlo rhi rl rg tf kn tl th tv) H → va_D A (wC q cI cJ cZ nr wd sg lw hg fr to sn pl kd tg sa sb bn mt pa ob tb fo rv ro tk ov sh tu rk cb rlo rhi rl rg tf kn tl th tv) → va_S A s.heap H locs → lv_has ls 3 [(0, .ref (q 19)), (1, .int x1), (2, .int x2)] → k tu x1 x2 = some RES → W p l e rmX5_noteTurned s m args below meth c H locs 0 0 (QV below args s A (dC, dI) (ty3 cI cJ cZ) (wC q cI cJ cZ nr wd sg lw hg fr to sn pl kd tg sa sb bn mt pa ob tb fo rv ro tk ov sh RES rk cb rlo rhi rl rg tf kn tl th tv)) (F0 m 2 ls [])
set_option maxHeartbeats 4000000 in
set_option maxRecDepth 100000 in
theorem zX5_noteTurned_L2 {p : Program} {l : Launch} {e : Env} {s : State} {m : MethodId} {args : Array Value} {below : List Frame} {meth : Method} {c : Code} {A : Nat → Prop} {dC : Nat → ClassId} {dI : Nat → Nat → Nat} {q : Nat → Nat} {cI cJ cZ : ClassId} {nr : Int32} {wd : Nat → Int32} {sg : Nat → Int32} {lw : Nat → Int64} {hg : Nat → Int64} {fr : Nat → Int32} {to : Nat → Int32} {sn : Int32} {pl : Int32} {kd : Nat → Int32} {tg : Nat → Int32} {sa : Nat → Int32} {sb : Nat → Int32} {bn : Nat → Int32} {mt : Nat → Int32} {pa : Nat → Int32} {ob : Int32} {tb : Int32} {fo : Int32} {rv : Nat → Int64} {ro : Int32} {tk : Int32} {ov : Nat → Int32} {sh : Nat → Int32} {rk : Int32} {cb : Int32} {rlo : Int64} {rhi : Int64} {rl : Nat → Int64} {rg : Nat → Int64} {tf : Int32} {kn : Int32} {tl : Nat → Int64} {th : Nat → Int64} {tv : Nat → Int64}  (C0 : Cx p s m args meth c cX5_noteTurned 3 none RX5 wsX5_noteTurned A (dC, dI) (ty3 cI cJ cZ)) {RES : (Nat → Int32)}  : ∀ n : Nat, iX5_noteTurned_L2 p l e s m args below meth c A dC dI q cI cJ cZ nr wd sg lw hg fr to sn pl kd tg sa sb bn mt pa ob tb fo rv ro tk ov sh rk cb rlo rhi rl rg tf kn tl th tv RES (mX5_noteTurned_L2  n) := by
  have C1 := C0
  obtain ⟨hx, hb, hr, hml, hown, hts, hlocks, hN, hK, hA⟩ := C1
  intro n
  induction n with
  | zero =>
    intro tu x1 x2 H locs ls hP hD hS hl hres
    exact mi_0 hres
  | succ n ih =>
    intro tu x1 x2 H locs ls hP hD hS hl hres
    rw [mX5_noteTurned_L2] at hres
    refine lv_iload_n hx hb dX5_noteTurned_2 rfl (lv_at hl 2 rfl) ?_
    refine lv_bipush (v := (24 : Int32)) hx hb dX5_noteTurned_3 (by decide) ?_
    refine lv_icmp_ge (tgt := 28) hx hb dX5_noteTurned_5 (by decide) (fun c_1 => ?_) (fun c_1 => ?_)
    · replace hres := mi_p c_1 hres
      obtain rfl := Option.some.inj hres
      exact ret_V C0 hP hD hS dX5_noteTurned_28
    · replace hres := mi_n c_1 hres
      refine lv_aload_n hx hb dX5_noteTurned_8 rfl (lv_at hl 0 rfl) ?_
      refine va_get (D := (dC, dI)) (ci := 5) (v := .ref (q 22)) (C := RX5) (T := TX5) (N := 7) hx hb hts hwX5_noteTurned_RX5 hown hK hP 19 rfl rfl 2 (by decide) (hts _ mwX5_noteTurned_0) (fun _ h9 => h9) rfl dX5_noteTurned_9 ?_
      refine lv_iload_n hx hb dX5_noteTurned_12 rfl (lv_at hl 2 rfl) ?_
      refine lv_dup2_11 hx hb dX5_noteTurned_13 rfl rfl ?_
      obtain ⟨g_2, hres⟩ := mi_g hres
      refine va_iald (D := (dC, dI)) (cl := vwCl) hx hb hK hP 22 0 rfl rfl g_2 dX5_noteTurned_14 ?_
      refine lv_iload_n hx hb dX5_noteTurned_15 rfl (lv_at hl 1 rfl) ?_
      refine lv_iload_n hx hb dX5_noteTurned_16 rfl (lv_at hl 2 rfl) ?_
      refine lv_ishr hx hb dX5_noteTurned_17 ?_
      refine lv_iconst (v := (1 : Int32)) hx hb dX5_noteTurned_18 (by decide) ?_
      refine lv_iand hx hb dX5_noteTurned_19 ?_
      refine lv_iadd hx hb dX5_noteTurned_20 ?_
      refine va_iast (D := (dC, dI)) (cl := vwCl) hx hb hK hP hD hS 22 0 rfl rfl g_2 dX5_noteTurned_21 (fun H locs hP hD hS => ?_)
      have hP : va_P (dC, dI) vwCl (wC q cI cJ cZ nr wd sg lw hg fr to sn pl kd tg sa sb bn mt pa ob tb fo rv ro tk ov sh (upd tu (Int32.toNatClampNeg x2) ((tu (Int32.toNatClampNeg x2)) + ((x1 >>> (x2 &&& 31)) &&& (1 : Int32)))) rk cb rlo rhi rl rg tf kn tl th tv) H := hP
      have hD : va_D A (wC q cI cJ cZ nr wd sg lw hg fr to sn pl kd tg sa sb bn mt pa ob tb fo rv ro tk ov sh (upd tu (Int32.toNatClampNeg x2) ((tu (Int32.toNatClampNeg x2)) + ((x1 >>> (x2 &&& 31)) &&& (1 : Int32)))) rk cb rlo rhi rl rg tf kn tl th tv) := hD
      refine lv_iinc (v := x2 + (1 : Int32)) (lv' := [(2, .int (x2 + (1 : Int32))), (0, .ref (q 19)), (1, .int x1)]) hx hb dX5_noteTurned_22 hl (k := 2) rfl rfl (by decide) rfl (fun ls hl => ?_)
      refine lv_goto (tgt := 2) hx hb dX5_noteTurned_25 (by decide) ?_
      exact ih (upd tu (Int32.toNatClampNeg x2) ((tu (Int32.toNatClampNeg x2)) + ((x1 >>> (x2 &&& 31)) &&& (1 : Int32)))) x1 (x2 + (1 : Int32)) _ _ ls hP hD hS (lv_sub hl [1, 2, 0] rfl) hres
set_option maxHeartbeats 4000000 in
set_option maxRecDepth 100000 in
theorem kX5_noteTurned (l : Launch) (dC : Nat → ClassId) (dI : Nat → Nat → Nat) (q : Nat → Nat) (cI cJ cZ : ClassId) (nr : Int32) (wd : Nat → Int32) (sg : Nat → Int32) (lw : Nat → Int64) (hg : Nat → Int64) (fr : Nat → Int32) (to : Nat → Int32) (sn : Int32) (pl : Int32) (kd : Nat → Int32) (tg : Nat → Int32) (sa : Nat → Int32) (sb : Nat → Int32) (bn : Nat → Int32) (mt : Nat → Int32) (pa : Nat → Int32) (ob : Int32) (tb : Int32) (fo : Int32) (rv : Nat → Int64) (ro : Int32) (tk : Int32) (ov : Nat → Int32) (sh : Nat → Int32) (tu : Nat → Int32) (rk : Int32) (cb : Int32) (rlo : Int64) (rhi : Int64) (rl : Nat → Int64) (rg : Nat → Int64) (tf : Int32) (kn : Int32) (tl : Nat → Int64) (th : Nat → Int64) (tv : Nat → Int64) (x1 : Int32) (RES : (Nat → Int32)) (hres : mX5_noteTurned tu x1 = some RES) : CtV l yX5_noteTurned wsX5_noteTurned rmX5_noteTurned (dC, dI) (ty3 cI cJ cZ) (wC q cI cJ cZ nr wd sg lw hg fr to sn pl kd tg sa sb bn mt pa ob tb fo rv ro tk ov sh tu rk cb rlo rhi rl rg tf kn tl th tv) [.ref (q 19), .int x1] (wC q cI cJ cZ nr wd sg lw hg fr to sn pl kd tg sa sb bn mt pa ob tb fo rv ro tk ov sh RES rk cb rlo rhi rl rg tf kn tl th tv) := by
  intro sz
  refine ct_entry (cc := cX5_noteTurned) (maxL := 3) (ret := none) (own := RX5) (by decide) rfl rfl (Nat.le_of_ble_eq_true rfl) (ll := [(0, .ref (q 19)), (1, .int x1)]) rfl ?_
  intro p e s m args below meth c hsz C0 _ hP hD ls hl
  have C1 := C0
  obtain ⟨hx, hb, hr, hml, hown, hts, hlocks, hN, hK, hA⟩ := C1
  have hS : va_S (va_A (wC q cI cJ cZ nr wd sg lw hg fr to sn pl kd tg sa sb bn mt pa ob tb fo rv ro tk ov sh tu rk cb rlo rhi rl rg tf kn tl th tv) sz) s.heap s.heap [] := va_S.rf
  generalize va_A (wC q cI cJ cZ nr wd sg lw hg fr to sn pl kd tg sa sb bn mt pa ob tb fo rv ro tk ov sh tu rk cb rlo rhi rl rg tf kn tl th tv) sz = A at C0 hD hA hS ⊢
  show W p l e rmX5_noteTurned s m args below meth c s.heap [] 0 0 (QV below args s A (dC, dI) (ty3 cI cJ cZ) (wC q cI cJ cZ nr wd sg lw hg fr to sn pl kd tg sa sb bn mt pa ob tb fo rv ro tk ov sh RES rk cb rlo rhi rl rg tf kn tl th tv)) (F0 m 0 ls [])
  unfold mX5_noteTurned at hres
  refine lv_iconst (v := (0 : Int32)) hx hb dX5_noteTurned_0 (by decide) ?_
  refine lv_istore_n (lv' := [(2, .int (0 : Int32)), (0, .ref (q 19)), (1, .int x1)]) hx hb dX5_noteTurned_1 rfl hl (by decide) rfl (fun ls hl => ?_)
  exact zX5_noteTurned_L2 C0  FU tu x1 (0 : Int32) _ _ ls hP hD hS (lv_sub hl [1, 2, 0] rfl) hres
/-! ### SumsOver$Tally.note(I)V -/
set_option maxRecDepth 20000 in
theorem hwX5_note_RX5 : ∀ w ∈ u_ws RX5 TX5 7, w ∈ wsX5_note := by decide +kernel
theorem mwX5_note_0 : (.fieldLink RX5 21 "SumsOver$Tally" "runner" "LSumsOver$Runner;" : Cond) ∈ wsX5_note := by decide +kernel
set_option maxRecDepth 20000 in
theorem hwX5_note_RX3 : ∀ w ∈ u_ws RX3 TX3 6, w ∈ wsX5_note := by decide +kernel
theorem mwX5_note_1 : (.fieldLink RX5 61 "SumsOver$Runner" "overBits" "I" : Cond) ∈ wsX5_note := by decide +kernel
theorem mwX5_note_2 : (.fieldLink RX5 67 "SumsOver$Runner" "turnedBits" "I" : Cond) ∈ wsX5_note := by decide +kernel
theorem mwX5_note_3 : (.fieldLink RX5 39 "SumsOver$Tally" "runsOver" "I" : Cond) ∈ wsX5_note := by decide +kernel
def rmX5_note : Room := { frames := 1, cells := 0, slots := 0, locals := 23 }
set_option maxHeartbeats 4000000 in
set_option maxRecDepth 100000 in
theorem kX5_note (l : Launch) (dC : Nat → ClassId) (dI : Nat → Nat → Nat) (q : Nat → Nat) (cI cJ cZ : ClassId) (nr : Int32) (wd : Nat → Int32) (sg : Nat → Int32) (lw : Nat → Int64) (hg : Nat → Int64) (fr : Nat → Int32) (to : Nat → Int32) (sn : Int32) (pl : Int32) (kd : Nat → Int32) (tg : Nat → Int32) (sa : Nat → Int32) (sb : Nat → Int32) (bn : Nat → Int32) (mt : Nat → Int32) (pa : Nat → Int32) (ob : Int32) (tb : Int32) (fo : Int32) (rv : Nat → Int64) (ro : Int32) (tk : Int32) (ov : Nat → Int32) (sh : Nat → Int32) (tu : Nat → Int32) (rk : Int32) (cb : Int32) (rlo : Int64) (rhi : Int64) (rl : Nat → Int64) (rg : Nat → Int64) (tf : Int32) (kn : Int32) (tl : Nat → Int64) (th : Nat → Int64) (tv : Nat → Int64) (x1 : Int32) (RES : (Int32) × (Nat → Int32) × (Nat → Int32) × (Nat → Int32)) (hres : mX5_note ob tb ro ov sh tu x1 = some RES) : CtV l yX5_note wsX5_note rmX5_note (dC, dI) (ty3 cI cJ cZ) (wC q cI cJ cZ nr wd sg lw hg fr to sn pl kd tg sa sb bn mt pa ob tb fo rv ro tk ov sh tu rk cb rlo rhi rl rg tf kn tl th tv) [.ref (q 19), .int x1] (wC q cI cJ cZ nr wd sg lw hg fr to sn pl kd tg sa sb bn mt pa ob tb fo rv RES.1 tk RES.2.1 RES.2.2.1 RES.2.2.2 rk cb rlo rhi rl rg tf kn tl th tv) := by
  intro sz
  refine ct_entry (cc := cX5_note) (maxL := 2) (ret := none) (own := RX5) (by decide) rfl rfl (Nat.le_of_ble_eq_true rfl) (ll := [(0, .ref (q 19)), (1, .int x1)]) rfl ?_
  intro p e s m args below meth c hsz C0 _ hP hD ls hl
  have C1 := C0
  obtain ⟨hx, hb, hr, hml, hown, hts, hlocks, hN, hK, hA⟩ := C1
  have hS : va_S (va_A (wC q cI cJ cZ nr wd sg lw hg fr to sn pl kd tg sa sb bn mt pa ob tb fo rv ro tk ov sh tu rk cb rlo rhi rl rg tf kn tl th tv) sz) s.heap s.heap [] := va_S.rf
  generalize va_A (wC q cI cJ cZ nr wd sg lw hg fr to sn pl kd tg sa sb bn mt pa ob tb fo rv ro tk ov sh tu rk cb rlo rhi rl rg tf kn tl th tv) sz = A at C0 hD hA hS ⊢
  show W p l e rmX5_note s m args below meth c s.heap [] 0 0 (QV below args s A (dC, dI) (ty3 cI cJ cZ) (wC q cI cJ cZ nr wd sg lw hg fr to sn pl kd tg sa sb bn mt pa ob tb fo rv RES.1 tk RES.2.1 RES.2.2.1 RES.2.2.2 rk cb rlo rhi rl rg tf kn tl th tv)) (F0 m 0 ls [])
  unfold mX5_note at hres
  refine lv_aload_n hx hb dX5_note_0 rfl (lv_at hl 0 rfl) ?_
  refine va_get (D := (dC, dI)) (ci := 5) (v := .ref (q 17)) (C := RX5) (T := TX5) (N := 7) hx hb hts hwX5_note_RX5 hown hK hP 19 rfl rfl 5 (by decide) (hts _ mwX5_note_0) (fun _ h9 => h9) rfl dX5_note_1 ?_
  refine va_get (D := (dC, dI)) (ci := 3) (v := .int ob) (C := RX3) (T := TX3) (N := 6) hx hb hts hwX5_note_RX3 hown hK hP 17 rfl rfl 3 (by decide) (hts _ mwX5_note_1) (fun _ h9 => h9) rfl dX5_note_4 ?_
  refine lv_if_eq (tgt := 32) hx hb dX5_note_7 (by decide) (fun c_1 => ?_) (fun c_1 => ?_)
  · replace hres := mi_p c_1 hres
    refine lv_aload_n hx hb dX5_note_32 rfl (lv_at hl 0 rfl) ?_
    refine va_get (D := (dC, dI)) (ci := 5) (v := .ref (q 17)) (C := RX5) (T := TX5) (N := 7) hx hb hts hwX5_note_RX5 hown hK hP 19 rfl rfl 5 (by decide) (hts _ mwX5_note_0) (fun _ h9 => h9) rfl dX5_note_33 ?_
    refine va_get (D := (dC, dI)) (ci := 3) (v := .int tb) (C := RX3) (T := TX3) (N := 6) hx hb hts hwX5_note_RX3 hown hK hP 17 rfl rfl 4 (by decide) (hts _ mwX5_note_2) (fun _ h9 => h9) rfl dX5_note_36 ?_
    refine lv_if_eq (tgt := 53) hx hb dX5_note_39 (by decide) (fun c_2 => ?_) (fun c_2 => ?_)
    · replace hres := mi_p c_2 hres
      obtain rfl := Option.some.inj hres
      exact ret_V C0 hP hD hS dX5_note_53
    · replace hres := mi_n c_2 hres
      refine lv_aload_n hx hb dX5_note_42 rfl (lv_at hl 0 rfl) ?_
      refine lv_aload_n hx hb dX5_note_43 rfl (lv_at hl 0 rfl) ?_
      refine va_get (D := (dC, dI)) (ci := 5) (v := .ref (q 17)) (C := RX5) (T := TX5) (N := 7) hx hb hts hwX5_note_RX5 hown hK hP 19 rfl rfl 5 (by decide) (hts _ mwX5_note_0) (fun _ h9 => h9) rfl dX5_note_44 ?_
      refine va_get (D := (dC, dI)) (ci := 3) (v := .int tb) (C := RX3) (T := TX3) (N := 6) hx hb hts hwX5_note_RX3 hown hK hP 17 rfl rfl 4 (by decide) (hts _ mwX5_note_2) (fun _ h9 => h9) rfl dX5_note_47 ?_
      obtain ⟨u3, hu3, hres⟩ := mi_b hres
      refine call_V C0 (run_V C0 (rest := []) (kX5_noteTurned l dC dI q cI cJ cZ nr wd sg lw hg fr to sn pl kd tg sa sb bn mt pa ob tb fo rv ro tk ov sh tu rk cb rlo rhi rl rg tf kn tl th tv  tb u3 hu3 _) (cwV 1 hts gX5_note_X5_noteTurned rfl rfl rfl (by decide +kernel) ⟨by decide, by decide⟩) hP hD (ci := 5) (q0 := 19) rfl rfl rfl hl.1 rfl (Nat.le_of_ble_eq_true rfl) dX5_note_50) hD hS (fun H locs hP hD hS => ?_)
      obtain rfl := Option.some.inj hres
      exact ret_V C0 hP hD hS dX5_note_53
  · replace hres := mi_n c_1 hres
    refine lv_aload_n hx hb dX5_note_10 rfl (lv_at hl 0 rfl) ?_
    refine lv_dup hx hb dX5_note_11 rfl ?_
    refine va_get (D := (dC, dI)) (ci := 5) (v := .int ro) (C := RX5) (T := TX5) (N := 7) hx hb hts hwX5_note_RX5 hown hK hP 19 rfl rfl 3 (by decide) (hts _ mwX5_note_3) (fun _ h9 => h9) rfl dX5_note_12 ?_
    refine lv_iconst (v := (1 : Int32)) hx hb dX5_note_15 (by decide) ?_
    refine lv_iadd hx hb dX5_note_16 ?_
    refine va_put (D := (dC, dI)) (ci := 5) (v := .int (ro + (1 : Int32))) (ty := .int) (C := RX5) (T := TX5) (N := 7) hx hb hts hwX5_note_RX5 tyX5 tyX5_ok nmX5 hown hK hP hD hS 19 rfl rfl 3 (by decide) (hts _ mwX5_note_3) (fun _ h9 => h9) rfl (by decide +kernel) rfl rfl (Nat.le_of_ble_eq_true rfl) dX5_note_17 (fun H locs hP hD hS => ?_)
    have hP : va_P (dC, dI) vwCl (wC q cI cJ cZ nr wd sg lw hg fr to sn pl kd tg sa sb bn mt pa ob tb fo rv (ro + (1 : Int32)) tk ov sh tu rk cb rlo rhi rl rg tf kn tl th tv) H := hP
    have hD : va_D A (wC q cI cJ cZ nr wd sg lw hg fr to sn pl kd tg sa sb bn mt pa ob tb fo rv (ro + (1 : Int32)) tk ov sh tu rk cb rlo rhi rl rg tf kn tl th tv) := hD
    refine lv_aload_n hx hb dX5_note_20 rfl (lv_at hl 0 rfl) ?_
    refine lv_aload_n hx hb dX5_note_21 rfl (lv_at hl 0 rfl) ?_
    refine va_get (D := (dC, dI)) (ci := 5) (v := .ref (q 17)) (C := RX5) (T := TX5) (N := 7) hx hb hts hwX5_note_RX5 hown hK hP 19 rfl rfl 5 (by decide) (hts _ mwX5_note_0) (fun _ h9 => h9) rfl dX5_note_22 ?_
    refine va_get (D := (dC, dI)) (ci := 3) (v := .int ob) (C := RX3) (T := TX3) (N := 6) hx hb hts hwX5_note_RX3 hown hK hP 17 rfl rfl 3 (by decide) (hts _ mwX5_note_1) (fun _ h9 => h9) rfl dX5_note_25 ?_
    refine lv_iload_n hx hb dX5_note_28 rfl (lv_at hl 1 rfl) ?_
    obtain ⟨u4, hu4, hres⟩ := mi_b hres
    refine call_V C0 (run_V C0 (rest := []) (kX5_noteOver l dC dI q cI cJ cZ nr wd sg lw hg fr to sn pl kd tg sa sb bn mt pa ob tb fo rv (ro + (1 : Int32)) tk ov sh tu rk cb rlo rhi rl rg tf kn tl th tv  ob x1 u4 hu4 _) (cwV 2 hts gX5_note_X5_noteOver rfl rfl rfl (by decide +kernel) ⟨by decide, by decide⟩) hP hD (ci := 5) (q0 := 19) rfl rfl rfl hl.1 rfl (Nat.le_of_ble_eq_true rfl) dX5_note_29) hD hS (fun H locs hP hD hS => ?_)
    refine lv_aload_n hx hb dX5_note_32 rfl (lv_at hl 0 rfl) ?_
    refine va_get (D := (dC, dI)) (ci := 5) (v := .ref (q 17)) (C := RX5) (T := TX5) (N := 7) hx hb hts hwX5_note_RX5 hown hK hP 19 rfl rfl 5 (by decide) (hts _ mwX5_note_0) (fun _ h9 => h9) rfl dX5_note_33 ?_
    refine va_get (D := (dC, dI)) (ci := 3) (v := .int tb) (C := RX3) (T := TX3) (N := 6) hx hb hts hwX5_note_RX3 hown hK hP 17 rfl rfl 4 (by decide) (hts _ mwX5_note_2) (fun _ h9 => h9) rfl dX5_note_36 ?_
    refine lv_if_eq (tgt := 53) hx hb dX5_note_39 (by decide) (fun c_5 => ?_) (fun c_5 => ?_)
    · replace hres := mi_p c_5 hres
      obtain rfl := Option.some.inj hres
      exact ret_V C0 hP hD hS dX5_note_53
    · replace hres := mi_n c_5 hres
      refine lv_aload_n hx hb dX5_note_42 rfl (lv_at hl 0 rfl) ?_
      refine lv_aload_n hx hb dX5_note_43 rfl (lv_at hl 0 rfl) ?_
      refine va_get (D := (dC, dI)) (ci := 5) (v := .ref (q 17)) (C := RX5) (T := TX5) (N := 7) hx hb hts hwX5_note_RX5 hown hK hP 19 rfl rfl 5 (by decide) (hts _ mwX5_note_0) (fun _ h9 => h9) rfl dX5_note_44 ?_
      refine va_get (D := (dC, dI)) (ci := 3) (v := .int tb) (C := RX3) (T := TX3) (N := 6) hx hb hts hwX5_note_RX3 hown hK hP 17 rfl rfl 4 (by decide) (hts _ mwX5_note_2) (fun _ h9 => h9) rfl dX5_note_47 ?_
      obtain ⟨u6, hu6, hres⟩ := mi_b hres
      refine call_V C0 (run_V C0 (rest := []) (kX5_noteTurned l dC dI q cI cJ cZ nr wd sg lw hg fr to sn pl kd tg sa sb bn mt pa ob tb fo rv (ro + (1 : Int32)) tk u4.1 u4.2 tu rk cb rlo rhi rl rg tf kn tl th tv  tb u6 hu6 _) (cwV 1 hts gX5_note_X5_noteTurned rfl rfl rfl (by decide +kernel) ⟨by decide, by decide⟩) hP hD (ci := 5) (q0 := 19) rfl rfl rfl hl.1 rfl (Nat.le_of_ble_eq_true rfl) dX5_note_50) hD hS (fun H locs hP hD hS => ?_)
      obtain rfl := Option.some.inj hres
      exact ret_V C0 hP hD hS dX5_note_53
/-! ### SumsOver$Tally.learn()V -/
set_option maxRecDepth 20000 in
theorem hwX5_learn_RX5 : ∀ w ∈ u_ws RX5 TX5 7, w ∈ wsX5_learn := by decide +kernel
theorem mwX5_learn_0 : (.fieldLink RX5 29 "SumsOver$Tally" "known" "Z" : Cond) ∈ wsX5_learn := by decide +kernel
theorem mwX5_learn_1 : (.fieldLink RX5 9 "SumsOver$Tally" "over" "[I" : Cond) ∈ wsX5_learn := by decide +kernel
theorem mwX5_learn_2 : (.fieldLink RX5 15 "SumsOver$Tally" "shown" "[I" : Cond) ∈ wsX5_learn := by decide +kernel
theorem mwX5_learn_3 : (.fieldLink RX5 18 "SumsOver$Tally" "turned" "[I" : Cond) ∈ wsX5_learn := by decide +kernel
theorem mwX5_learn_4 : (.fieldLink RX5 39 "SumsOver$Tally" "runsOver" "I" : Cond) ∈ wsX5_learn := by decide +kernel
theorem mwX5_learn_5 : (.fieldLink RX5 25 "SumsOver$Tally" "inputs" "LSumsOver$Inputs;" : Cond) ∈ wsX5_learn := by decide +kernel
set_option maxRecDepth 20000 in
theorem hwX5_learn_RX0 : ∀ w ∈ u_ws RX0 TX0 2, w ∈ wsX5_learn := by decide +kernel
theorem mwX5_learn_6 : (.fieldLink RX5 43 "SumsOver$Inputs" "from" "[I" : Cond) ∈ wsX5_learn := by decide +kernel
theorem mwX5_learn_7 : (.fieldLink RX5 48 "SumsOver$Inputs" "to" "[I" : Cond) ∈ wsX5_learn := by decide +kernel
theorem mwX5_learn_8 : (.fieldLink RX5 21 "SumsOver$Tally" "runner" "LSumsOver$Runner;" : Cond) ∈ wsX5_learn := by decide +kernel
def rmX5_learn : Room := { frames := 5, cells := 0, slots := 0, locals := 127 }
def iX5_learn_L75 (p : Program) (l : Launch) (e : Env) (s : State) (m : MethodId) (args : Array Value) (below : List Frame) (meth : Method) (c : Code) (A : Nat → Prop) (dC : Nat → ClassId) (dI : Nat → Nat → Nat) (q : Nat → Nat) (cI cJ cZ : ClassId) (nr : Int32) (wd : Nat → Int32) (sg : Nat → Int32) (lw : Nat → Int64) (hg : Nat → Int64) (fr : Nat → Int32) (to : Nat → Int32) (sn : Int32) (pl : Int32) (kd : Nat → Int32) (tg : Nat → Int32) (sa : Nat → Int32) (sb : Nat → Int32) (bn : Nat → Int32) (mt : Nat → Int32) (pa : Nat → Int32) (rk : Int32) (cb : Int32) (rlo : Int64) (rhi : Int64) (rl : Nat → Int64) (rg : Nat → Int64) (tf : Int32) (kn : Int32) (tl : Nat → Int64) (th : Nat → Int64) (tv : Nat → Int64)  (RES : (Int32) × (Int32) × (Int32) × (Nat → Int64) × (Int32) × (Int32) × (Nat → Int32) × (Nat → Int32) × (Nat → Int32)) (k : (Int32) → (Int32) → (Int32) → (Nat → Int64) → (Int32) → (Int32) → (Nat → Int32) → (Nat → Int32) → (Nat → Int32) → (Int32) → (Int32) → Option ((Int32) × (Int32) × (Int32) × (Nat → Int64) × (Int32) × (Int32) × (Nat → Int32) × (Nat → Int32) × (Nat → Int32))) : Prop := ∀ (ob : Int32) (tb : Int32) (fo : Int32) (rv : Nat → Int64) (ro : Int32) (tk : Int32) (ov : Nat → Int32) (sh : Nat → Int32) (tu : Nat → Int32) (x1 : Int32) (x2 : Int32) (H : Heap) (locs : List Loc) (ls : Array Slot), va_P (dC, dI) vwCl (wC q cI cJ cZ nr wd sg lw hg fr to sn pl kd tg sa sb bn mt pa ob tb fo rv ro tk ov sh tu rk cb rlo rhi rl rg tf kn tl th tv) H → va_D A (wC q cI cJ cZ nr wd sg lw hg fr to sn pl kd tg sa sb bn mt pa ob tb fo rv ro tk ov sh tu rk cb rlo rhi rl rg tf kn tl th tv) → va_S A s.heap H locs → lv_has ls 3 [(0, .ref (q 19)), (1, .int x1), (2, .int x2)] → k ob tb fo rv ro tk ov sh tu x1 x2 = some RES → W p l e rmX5_learn s m args below meth c H locs 0 0 (QV below args s A (dC, dI) (ty3 cI cJ cZ) (wC q cI cJ cZ nr wd sg lw hg fr to sn pl kd tg sa sb bn mt pa RES.1 RES.2.1 RES.2.2.1 RES.2.2.2.1 RES.2.2.2.2.1 RES.2.2.2.2.2.1 RES.2.2.2.2.2.2.1 RES.2.2.2.2.2.2.2.1 RES.2.2.2.2.2.2.2.2 rk cb rlo rhi rl rg tf kn tl th tv)) (F0 m 75 ls [])
def iX5_learn_L52 (p : Program) (l : Launch) (e : Env) (s : State) (m : MethodId) (args : Array Value) (below : List Frame) (meth : Method) (c : Code) (A : Nat → Prop) (dC : Nat → ClassId) (dI : Nat → Nat → Nat) (q : Nat → Nat) (cI cJ cZ : ClassId) (nr : Int32) (wd : Nat → Int32) (sg : Nat → Int32) (lw : Nat → Int64) (hg : Nat → Int64) (fr : Nat → Int32) (to : Nat → Int32) (sn : Int32) (pl : Int32) (kd : Nat → Int32) (tg : Nat → Int32) (sa : Nat → Int32) (sb : Nat → Int32) (bn : Nat → Int32) (mt : Nat → Int32) (pa : Nat → Int32) (rk : Int32) (cb : Int32) (rlo : Int64) (rhi : Int64) (rl : Nat → Int64) (rg : Nat → Int64) (tf : Int32) (kn : Int32) (tl : Nat → Int64) (th : Nat → Int64) (tv : Nat → Int64)  (RES : (Int32) × (Int32) × (Int32) × (Nat → Int64) × (Int32) × (Int32) × (Nat → Int32) × (Nat → Int32) × (Nat → Int32)) (k : (Int32) → (Int32) → (Int32) → (Nat → Int64) → (Int32) → (Int32) → (Nat → Int32) → (Nat → Int32) → (Nat → Int32) → (Int32) → Option ((Int32) × (Int32) × (Int32) × (Nat → Int64) × (Int32) × (Int32) × (Nat → Int32) × (Nat → Int32) × (Nat → Int32))) : Prop := ∀ (ob : Int32) (tb : Int32) (fo : Int32) (rv : Nat → Int64) (ro : Int32) (tk : Int32) (ov : Nat → Int32) (sh : Nat → Int32) (tu : Nat → Int32) (x1 : Int32) (H : Heap) (locs : List Loc) (ls : Array Slot), va_P (dC, dI) vwCl (wC q cI cJ cZ nr wd sg lw hg fr to sn pl kd tg sa sb bn mt pa ob tb fo rv ro tk ov sh tu rk cb rlo rhi rl rg tf kn tl th tv) H → va_D A (wC q cI cJ cZ nr wd sg lw hg fr to sn pl kd tg sa sb bn mt pa ob tb fo rv ro tk ov sh tu rk cb rlo rhi rl rg tf kn tl th tv) → va_S A s.heap H locs → lv_has ls 3 [(0, .ref (q 19)), (1, .int x1)] → k ob tb fo rv ro tk ov sh tu x1 = some RES → W p l e rmX5_learn s m args below meth c H locs 0 0 (QV below args s A (dC, dI) (ty3 cI cJ cZ) (wC q cI cJ cZ nr wd sg lw hg fr to sn pl kd tg sa sb bn mt pa RES.1 RES.2.1 RES.2.2.1 RES.2.2.2.1 RES.2.2.2.2.1 RES.2.2.2.2.2.1 RES.2.2.2.2.2.2.1 RES.2.2.2.2.2.2.2.1 RES.2.2.2.2.2.2.2.2 rk cb rlo rhi rl rg tf kn tl th tv)) (F0 m 52 ls [])
set_option maxHeartbeats 4000000 in
set_option maxRecDepth 100000 in
theorem zX5_learn_L75 {p : Program} {l : Launch} {e : Env} {s : State} {m : MethodId} {args : Array Value} {below : List Frame} {meth : Method} {c : Code} {A : Nat → Prop} {dC : Nat → ClassId} {dI : Nat → Nat → Nat} {q : Nat → Nat} {cI cJ cZ : ClassId} {nr : Int32} {wd : Nat → Int32} {sg : Nat → Int32} {lw : Nat → Int64} {hg : Nat → Int64} {fr : Nat → Int32} {to : Nat → Int32} {sn : Int32} {pl : Int32} {kd : Nat → Int32} {tg : Nat → Int32} {sa : Nat → Int32} {sb : Nat → Int32} {bn : Nat → Int32} {mt : Nat → Int32} {pa : Nat → Int32} {rk : Int32} {cb : Int32} {rlo : Int64} {rhi : Int64} {rl : Nat → Int64} {rg : Nat → Int64} {tf : Int32} {kn : Int32} {tl : Nat → Int64} {th : Nat → Int64} {tv : Nat → Int64}  (C0 : Cx p s m args meth c cX5_learn 3 none RX5 wsX5_learn A (dC, dI) (ty3 cI cJ cZ)) {RES : (Int32) × (Int32) × (Int32) × (Nat → Int64) × (Int32) × (Int32) × (Nat → Int32) × (Nat → Int32) × (Nat → Int32)} {k52 : (Int32) → (Int32) → (Int32) → (Nat → Int64) → (Int32) → (Int32) → (Nat → Int32) → (Nat → Int32) → (Nat → Int32) → (Int32) → Option ((Int32) × (Int32) × (Int32) × (Nat → Int64) × (Int32) × (Int32) × (Nat → Int32) × (Nat → Int32) × (Nat → Int32))} (hk52 : iX5_learn_L52 p l e s m args below meth c A dC dI q cI cJ cZ nr wd sg lw hg fr to sn pl kd tg sa sb bn mt pa rk cb rlo rhi rl rg tf kn tl th tv RES k52) : ∀ n : Nat, iX5_learn_L75 p l e s m args below meth c A dC dI q cI cJ cZ nr wd sg lw hg fr to sn pl kd tg sa sb bn mt pa rk cb rlo rhi rl rg tf kn tl th tv RES (mX5_learn_L75 nr wd sg lw hg fr to pl kd tg sa sb bn pa k52 n) := by
  have C1 := C0
  obtain ⟨hx, hb, hr, hml, hown, hts, hlocks, hN, hK, hA⟩ := C1
  intro n
  induction n with
  | zero =>
    intro ob tb fo rv ro tk ov sh tu x1 x2 H locs ls hP hD hS hl hres
    exact mi_0 hres
  | succ n ih =>
    intro ob tb fo rv ro tk ov sh tu x1 x2 H locs ls hP hD hS hl hres
    rw [mX5_learn_L75] at hres
    refine lv_iload_n hx hb dX5_learn_75 rfl (lv_at hl 2 rfl) ?_
    refine lv_aload_n hx hb dX5_learn_76 rfl (lv_at hl 0 rfl) ?_
    refine va_get (D := (dC, dI)) (ci := 5) (v := .ref (q 6)) (C := RX5) (T := TX5) (N := 7) hx hb hts hwX5_learn_RX5 hown hK hP 19 rfl rfl 6 (by decide) (hts _ mwX5_learn_5) (fun _ h9 => h9) rfl dX5_learn_77 ?_
    refine va_get (D := (dC, dI)) (ci := 0) (v := .ref (q 8)) (C := RX0) (T := TX0) (N := 2) hx hb hts hwX5_learn_RX0 hown hK hP 6 rfl rfl 1 (by decide) (hts _ mwX5_learn_7) (fun _ h9 => h9) rfl dX5_learn_80 ?_
    refine lv_iconst (v := (1 : Int32)) hx hb dX5_learn_83 (by decide) ?_
    refine va_iald (D := (dC, dI)) (cl := vwCl) hx hb hK hP 8 0 rfl rfl (show ¬ ((1 : Int32) < 0 ∨ 2 ≤ Int32.toNatClampNeg (1 : Int32)) by decide) dX5_learn_84 ?_
    refine lv_icmp_gt (tgt := 133) hx hb dX5_learn_85 (by decide) (fun c_6 => ?_) (fun c_6 => ?_)
    · replace hres := mi_p c_6 hres
      refine lv_iinc (v := x1 + (1 : Int32)) (lv' := [(1, .int (x1 + (1 : Int32))), (0, .ref (q 19)), (2, .int x2)]) hx hb dX5_learn_133 hl (k := 1) rfl rfl (by decide) rfl (fun ls hl => ?_)
      refine lv_goto (tgt := 52) hx hb dX5_learn_136 (by decide) ?_
      exact hk52 ob tb fo rv ro tk ov sh tu (x1 + (1 : Int32)) _ _ ls hP hD hS (lv_sub hl [1, 0] rfl) hres
    · replace hres := mi_n c_6 hres
      refine lv_aload_n hx hb dX5_learn_88 rfl (lv_at hl 0 rfl) ?_
      refine va_get (D := (dC, dI)) (ci := 5) (v := .ref (q 17)) (C := RX5) (T := TX5) (N := 7) hx hb hts hwX5_learn_RX5 hown hK hP 19 rfl rfl 5 (by decide) (hts _ mwX5_learn_8) (fun _ h9 => h9) rfl dX5_learn_89 ?_
      refine lv_iload_n hx hb dX5_learn_92 rfl (lv_at hl 1 rfl) ?_
      refine lv_iload_n hx hb dX5_learn_93 rfl (lv_at hl 2 rfl) ?_
      obtain ⟨u7, hu7, hres⟩ := mi_b hres
      refine call_V C0 (run_V C0 (rest := []) (kX3_follow l dC dI q cI cJ cZ nr wd sg lw hg fr to sn pl kd tg sa sb bn mt pa ob tb fo rv ro tk ov sh tu rk cb rlo rhi rl rg tf kn tl th tv  x1 x2 u7 hu7 _) (cwV 2 hts gX5_learn_X3_follow rfl rfl rfl (by decide +kernel) ⟨by decide, by decide⟩) hP hD (ci := 3) (q0 := 17) rfl rfl rfl hl.1 rfl (Nat.le_of_ble_eq_true rfl) dX5_learn_94) hD hS (fun H locs hP hD hS => ?_)
      refine lv_aload_n hx hb dX5_learn_97 rfl (lv_at hl 0 rfl) ?_
      refine lv_bipush (v := (32 : Int32)) hx hb dX5_learn_98 (by decide) ?_
      refine lv_iload_n hx hb dX5_learn_100 rfl (lv_at hl 1 rfl) ?_
      refine lv_aload_n hx hb dX5_learn_101 rfl (lv_at hl 0 rfl) ?_
      refine va_get (D := (dC, dI)) (ci := 5) (v := .ref (q 6)) (C := RX5) (T := TX5) (N := 7) hx hb hts hwX5_learn_RX5 hown hK hP 19 rfl rfl 6 (by decide) (hts _ mwX5_learn_5) (fun _ h9 => h9) rfl dX5_learn_102 ?_
      refine va_get (D := (dC, dI)) (ci := 0) (v := .ref (q 7)) (C := RX0) (T := TX0) (N := 2) hx hb hts hwX5_learn_RX0 hown hK hP 6 rfl rfl 0 (by decide) (hts _ mwX5_learn_6) (fun _ h9 => h9) rfl dX5_learn_105 ?_
      refine lv_iconst (v := (0 : Int32)) hx hb dX5_learn_108 (by decide) ?_
      refine va_iald (D := (dC, dI)) (cl := vwCl) hx hb hK hP 7 0 rfl rfl (show ¬ ((0 : Int32) < 0 ∨ 2 ≤ Int32.toNatClampNeg (0 : Int32)) by decide) dX5_learn_109 ?_
      refine lv_isub hx hb dX5_learn_110 ?_
      refine lv_imul hx hb dX5_learn_111 ?_
      refine lv_iload_n hx hb dX5_learn_112 rfl (lv_at hl 2 rfl) ?_
      refine lv_iadd hx hb dX5_learn_113 ?_
      refine lv_aload_n hx hb dX5_learn_114 rfl (lv_at hl 0 rfl) ?_
      refine va_get (D := (dC, dI)) (ci := 5) (v := .ref (q 6)) (C := RX5) (T := TX5) (N := 7) hx hb hts hwX5_learn_RX5 hown hK hP 19 rfl rfl 6 (by decide) (hts _ mwX5_learn_5) (fun _ h9 => h9) rfl dX5_learn_115 ?_
      refine va_get (D := (dC, dI)) (ci := 0) (v := .ref (q 7)) (C := RX0) (T := TX0) (N := 2) hx hb hts hwX5_learn_RX0 hown hK hP 6 rfl rfl 0 (by decide) (hts _ mwX5_learn_6) (fun _ h9 => h9) rfl dX5_learn_118 ?_
      refine lv_iconst (v := (1 : Int32)) hx hb dX5_learn_121 (by decide) ?_
      refine va_iald (D := (dC, dI)) (cl := vwCl) hx hb hK hP 7 0 rfl rfl (show ¬ ((1 : Int32) < 0 ∨ 2 ≤ Int32.toNatClampNeg (1 : Int32)) by decide) dX5_learn_122 ?_
      refine lv_isub hx hb dX5_learn_123 ?_
      obtain ⟨u8, hu8, hres⟩ := mi_b hres
      refine call_V C0 (run_V C0 (rest := []) (kX5_note l dC dI q cI cJ cZ nr wd sg lw hg fr to sn pl kd tg sa sb bn mt pa u7.1 u7.2.1 u7.2.2.1 u7.2.2.2 ro tk ov sh tu rk cb rlo rhi rl rg tf kn tl th tv  ((((32 : Int32) * (x1 - (fr (Int32.toNatClampNeg (0 : Int32))))) + x2) - (fr (Int32.toNatClampNeg (1 : Int32)))) u8 hu8 _) (cwV 1 hts gX5_learn_X5_note rfl rfl rfl (by decide +kernel) ⟨by decide, by decide⟩) hP hD (ci := 5) (q0 := 19) rfl rfl rfl hl.1 rfl (Nat.le_of_ble_eq_true rfl) dX5_learn_124) hD hS (fun H locs hP hD hS => ?_)
      refine lv_iinc (v := x2 + (1 : Int32)) (lv' := [(2, .int (x2 + (1 : Int32))), (0, .ref (q 19)), (1, .int x1)]) hx hb dX5_learn_127 hl (k := 2) rfl rfl (by decide) rfl (fun ls hl => ?_)
      refine lv_goto (tgt := 75) hx hb dX5_learn_130 (by decide) ?_
      exact ih u7.1 u7.2.1 u7.2.2.1 u7.2.2.2 u8.1 tk u8.2.1 u8.2.2.1 u8.2.2.2 x1 (x2 + (1 : Int32)) _ _ ls hP hD hS (lv_sub hl [1, 2, 0] rfl) hres
set_option maxHeartbeats 4000000 in
set_option maxRecDepth 100000 in
theorem zX5_learn_L52 {p : Program} {l : Launch} {e : Env} {s : State} {m : MethodId} {args : Array Value} {below : List Frame} {meth : Method} {c : Code} {A : Nat → Prop} {dC : Nat → ClassId} {dI : Nat → Nat → Nat} {q : Nat → Nat} {cI cJ cZ : ClassId} {nr : Int32} {wd : Nat → Int32} {sg : Nat → Int32} {lw : Nat → Int64} {hg : Nat → Int64} {fr : Nat → Int32} {to : Nat → Int32} {sn : Int32} {pl : Int32} {kd : Nat → Int32} {tg : Nat → Int32} {sa : Nat → Int32} {sb : Nat → Int32} {bn : Nat → Int32} {mt : Nat → Int32} {pa : Nat → Int32} {rk : Int32} {cb : Int32} {rlo : Int64} {rhi : Int64} {rl : Nat → Int64} {rg : Nat → Int64} {tf : Int32} {kn : Int32} {tl : Nat → Int64} {th : Nat → Int64} {tv : Nat → Int64}  (C0 : Cx p s m args meth c cX5_learn 3 none RX5 wsX5_learn A (dC, dI) (ty3 cI cJ cZ)) {RES : (Int32) × (Int32) × (Int32) × (Nat → Int64) × (Int32) × (Int32) × (Nat → Int32) × (Nat → Int32) × (Nat → Int32)}  : ∀ n : Nat, iX5_learn_L52 p l e s m args below meth c A dC dI q cI cJ cZ nr wd sg lw hg fr to sn pl kd tg sa sb bn mt pa rk cb rlo rhi rl rg tf kn tl th tv RES (mX5_learn_L52 nr wd sg lw hg fr to pl kd tg sa sb bn pa n) := by
  have C1 := C0
  obtain ⟨hx, hb, hr, hml, hown, hts, hlocks, hN, hK, hA⟩ := C1
  intro n
  induction n with
  | zero =>
    intro ob tb fo rv ro tk ov sh tu x1 H locs ls hP hD hS hl hres
    exact mi_0 hres
  | succ n ih =>
    intro ob tb fo rv ro tk ov sh tu x1 H locs ls hP hD hS hl hres
    rw [mX5_learn_L52] at hres
    refine lv_iload_n hx hb dX5_learn_52 rfl (lv_at hl 1 rfl) ?_
    refine lv_aload_n hx hb dX5_learn_53 rfl (lv_at hl 0 rfl) ?_
    refine va_get (D := (dC, dI)) (ci := 5) (v := .ref (q 6)) (C := RX5) (T := TX5) (N := 7) hx hb hts hwX5_learn_RX5 hown hK hP 19 rfl rfl 6 (by decide) (hts _ mwX5_learn_5) (fun _ h9 => h9) rfl dX5_learn_54 ?_
    refine va_get (D := (dC, dI)) (ci := 0) (v := .ref (q 8)) (C := RX0) (T := TX0) (N := 2) hx hb hts hwX5_learn_RX0 hown hK hP 6 rfl rfl 1 (by decide) (hts _ mwX5_learn_7) (fun _ h9 => h9) rfl dX5_learn_57 ?_
    refine lv_iconst (v := (0 : Int32)) hx hb dX5_learn_60 (by decide) ?_
    refine va_iald (D := (dC, dI)) (cl := vwCl) hx hb hK hP 8 0 rfl rfl (show ¬ ((0 : Int32) < 0 ∨ 2 ≤ Int32.toNatClampNeg (0 : Int32)) by decide) dX5_learn_61 ?_
    refine lv_icmp_gt (tgt := 139) hx hb dX5_learn_62 (by decide) (fun c_5 => ?_) (fun c_5 => ?_)
    · replace hres := mi_p c_5 hres
      obtain rfl := Option.some.inj hres
      exact ret_V C0 hP hD hS dX5_learn_139
    · replace hres := mi_n c_5 hres
      refine lv_aload_n hx hb dX5_learn_65 rfl (lv_at hl 0 rfl) ?_
      refine va_get (D := (dC, dI)) (ci := 5) (v := .ref (q 6)) (C := RX5) (T := TX5) (N := 7) hx hb hts hwX5_learn_RX5 hown hK hP 19 rfl rfl 6 (by decide) (hts _ mwX5_learn_5) (fun _ h9 => h9) rfl dX5_learn_66 ?_
      refine va_get (D := (dC, dI)) (ci := 0) (v := .ref (q 7)) (C := RX0) (T := TX0) (N := 2) hx hb hts hwX5_learn_RX0 hown hK hP 6 rfl rfl 0 (by decide) (hts _ mwX5_learn_6) (fun _ h9 => h9) rfl dX5_learn_69 ?_
      refine lv_iconst (v := (1 : Int32)) hx hb dX5_learn_72 (by decide) ?_
      refine va_iald (D := (dC, dI)) (cl := vwCl) hx hb hK hP 7 0 rfl rfl (show ¬ ((1 : Int32) < 0 ∨ 2 ≤ Int32.toNatClampNeg (1 : Int32)) by decide) dX5_learn_73 ?_
      refine lv_istore_n (lv' := [(2, .int (fr (Int32.toNatClampNeg (1 : Int32)))), (0, .ref (q 19)), (1, .int x1)]) hx hb dX5_learn_74 rfl hl (by decide) rfl (fun ls hl => ?_)
      exact zX5_learn_L75 C0 ih FU ob tb fo rv ro tk ov sh tu x1 (fr (Int32.toNatClampNeg (1 : Int32))) _ _ ls hP hD hS (lv_sub hl [1, 2, 0] rfl) hres
set_option maxHeartbeats 4000000 in
set_option maxRecDepth 100000 in
theorem kX5_learn (l : Launch) (dC : Nat → ClassId) (dI : Nat → Nat → Nat) (q : Nat → Nat) (cI cJ cZ : ClassId) (nr : Int32) (wd : Nat → Int32) (sg : Nat → Int32) (lw : Nat → Int64) (hg : Nat → Int64) (fr : Nat → Int32) (to : Nat → Int32) (sn : Int32) (pl : Int32) (kd : Nat → Int32) (tg : Nat → Int32) (sa : Nat → Int32) (sb : Nat → Int32) (bn : Nat → Int32) (mt : Nat → Int32) (pa : Nat → Int32) (ob : Int32) (tb : Int32) (fo : Int32) (rv : Nat → Int64) (ro : Int32) (tk : Int32) (ov : Nat → Int32) (sh : Nat → Int32) (tu : Nat → Int32) (rk : Int32) (cb : Int32) (rlo : Int64) (rhi : Int64) (rl : Nat → Int64) (rg : Nat → Int64) (tf : Int32) (kn : Int32) (tl : Nat → Int64) (th : Nat → Int64) (tv : Nat → Int64)  (RES : (Int32) × (Int32) × (Int32) × (Nat → Int64) × (Int32) × (Int32) × (Nat → Int32) × (Nat → Int32) × (Nat → Int32)) (hres : mX5_learn nr wd sg lw hg fr to pl kd tg sa sb bn pa ob tb fo rv ro tk ov sh tu = some RES) : CtV l yX5_learn wsX5_learn rmX5_learn (dC, dI) (ty3 cI cJ cZ) (wC q cI cJ cZ nr wd sg lw hg fr to sn pl kd tg sa sb bn mt pa ob tb fo rv ro tk ov sh tu rk cb rlo rhi rl rg tf kn tl th tv) [.ref (q 19)] (wC q cI cJ cZ nr wd sg lw hg fr to sn pl kd tg sa sb bn mt pa RES.1 RES.2.1 RES.2.2.1 RES.2.2.2.1 RES.2.2.2.2.1 RES.2.2.2.2.2.1 RES.2.2.2.2.2.2.1 RES.2.2.2.2.2.2.2.1 RES.2.2.2.2.2.2.2.2 rk cb rlo rhi rl rg tf kn tl th tv) := by
  intro sz
  refine ct_entry (cc := cX5_learn) (maxL := 3) (ret := none) (own := RX5) (by decide) rfl rfl (Nat.le_of_ble_eq_true rfl) (ll := [(0, .ref (q 19))]) rfl ?_
  intro p e s m args below meth c hsz C0 _ hP hD ls hl
  have C1 := C0
  obtain ⟨hx, hb, hr, hml, hown, hts, hlocks, hN, hK, hA⟩ := C1
  have hS : va_S (va_A (wC q cI cJ cZ nr wd sg lw hg fr to sn pl kd tg sa sb bn mt pa ob tb fo rv ro tk ov sh tu rk cb rlo rhi rl rg tf kn tl th tv) sz) s.heap s.heap [] := va_S.rf
  generalize va_A (wC q cI cJ cZ nr wd sg lw hg fr to sn pl kd tg sa sb bn mt pa ob tb fo rv ro tk ov sh tu rk cb rlo rhi rl rg tf kn tl th tv) sz = A at C0 hD hA hS ⊢
  show W p l e rmX5_learn s m args below meth c s.heap [] 0 0 (QV below args s A (dC, dI) (ty3 cI cJ cZ) (wC q cI cJ cZ nr wd sg lw hg fr to sn pl kd tg sa sb bn mt pa RES.1 RES.2.1 RES.2.2.1 RES.2.2.2.1 RES.2.2.2.2.1 RES.2.2.2.2.2.1 RES.2.2.2.2.2.2.1 RES.2.2.2.2.2.2.2.1 RES.2.2.2.2.2.2.2.2 rk cb rlo rhi rl rg tf kn tl th tv)) (F0 m 0 ls [])
  unfold mX5_learn at hres
  refine lv_aload_n hx hb dX5_learn_0 rfl (lv_at hl 0 rfl) ?_
  refine va_get (D := (dC, dI)) (ci := 5) (v := .int tk) (C := RX5) (T := TX5) (N := 7) hx hb hts hwX5_learn_RX5 hown hK hP 19 rfl rfl 4 (by decide) (hts _ mwX5_learn_0) (fun _ h9 => h9) rfl dX5_learn_1 ?_
  refine lv_if_eq (tgt := 8) hx hb dX5_learn_4 (by decide) (fun c_1 => ?_) (fun c_1 => ?_)
  · replace hres := mi_p c_1 hres
    refine lv_aload_n hx hb dX5_learn_8 rfl (lv_at hl 0 rfl) ?_
    refine lv_iconst (v := (1 : Int32)) hx hb dX5_learn_9 (by decide) ?_
    refine va_put (D := (dC, dI)) (ci := 5) (v := .int (1 : Int32)) (ty := .boolean) (C := RX5) (T := TX5) (N := 7) hx hb hts hwX5_learn_RX5 tyX5 tyX5_ok nmX5 hown hK hP hD hS 19 rfl rfl 4 (by decide) (hts _ mwX5_learn_0) (fun _ h9 => h9) rfl (by decide +kernel) rfl rfl (Nat.le_of_ble_eq_true rfl) dX5_learn_10 (fun H locs hP hD hS => ?_)
    have hP : va_P (dC, dI) vwCl (wC q cI cJ cZ nr wd sg lw hg fr to sn pl kd tg sa sb bn mt pa ob tb fo rv ro (1 : Int32) ov sh tu rk cb rlo rhi rl rg tf kn tl th tv) H := hP
    have hD : va_D A (wC q cI cJ cZ nr wd sg lw hg fr to sn pl kd tg sa sb bn mt pa ob tb fo rv ro (1 : Int32) ov sh tu rk cb rlo rhi rl rg tf kn tl th tv) := hD
    refine lv_aload_n hx hb dX5_learn_13 rfl (lv_at hl 0 rfl) ?_
    refine va_get (D := (dC, dI)) (ci := 5) (v := .ref (q 20)) (C := RX5) (T := TX5) (N := 7) hx hb hts hwX5_learn_RX5 hown hK hP 19 rfl rfl 0 (by decide) (hts _ mwX5_learn_1) (fun _ h9 => h9) rfl dX5_learn_14 ?_
    refine lv_iconst (v := (0 : Int32)) hx hb dX5_learn_17 (by decide) ?_
    refine call_V C0 (run_S C0 (rest := []) (kflI l (dC, dI) (ty3 cI cJ cZ) _ 20 (q 20) cI 24 ov (0 : Int32) rfl rfl (by decide) _) (va_cwS 2 hts gX5_learn_J7_fill_53178 rfl rfl rfl (by decide +kernel) ⟨by decide, by decide⟩) hP hD rfl hl.1 rfl (Nat.le_of_ble_eq_true rfl) dX5_learn_18) hD hS (fun H locs hP hD hS => ?_)
    have hP : va_P (dC, dI) vwCl (wC q cI cJ cZ nr wd sg lw hg fr to sn pl kd tg sa sb bn mt pa ob tb fo rv ro (1 : Int32) (flI 24 (0 : Int32) ov) sh tu rk cb rlo rhi rl rg tf kn tl th tv) H := hP
    have hD : va_D A (wC q cI cJ cZ nr wd sg lw hg fr to sn pl kd tg sa sb bn mt pa ob tb fo rv ro (1 : Int32) (flI 24 (0 : Int32) ov) sh tu rk cb rlo rhi rl rg tf kn tl th tv) := hD
    refine lv_aload_n hx hb dX5_learn_21 rfl (lv_at hl 0 rfl) ?_
    refine va_get (D := (dC, dI)) (ci := 5) (v := .ref (q 21)) (C := RX5) (T := TX5) (N := 7) hx hb hts hwX5_learn_RX5 hown hK hP 19 rfl rfl 1 (by decide) (hts _ mwX5_learn_2) (fun _ h9 => h9) rfl dX5_learn_22 ?_
    refine lv_iconst (v := (-1 : Int32)) hx hb dX5_learn_25 (by decide) ?_
    refine call_V C0 (run_S C0 (rest := []) (kflI l (dC, dI) (ty3 cI cJ cZ) _ 21 (q 21) cI 24 sh (-1 : Int32) rfl rfl (by decide) _) (va_cwS 2 hts gX5_learn_J7_fill_53178 rfl rfl rfl (by decide +kernel) ⟨by decide, by decide⟩) hP hD rfl hl.1 rfl (Nat.le_of_ble_eq_true rfl) dX5_learn_26) hD hS (fun H locs hP hD hS => ?_)
    have hP : va_P (dC, dI) vwCl (wC q cI cJ cZ nr wd sg lw hg fr to sn pl kd tg sa sb bn mt pa ob tb fo rv ro (1 : Int32) (flI 24 (0 : Int32) ov) (flI 24 (-1 : Int32) sh) tu rk cb rlo rhi rl rg tf kn tl th tv) H := hP
    have hD : va_D A (wC q cI cJ cZ nr wd sg lw hg fr to sn pl kd tg sa sb bn mt pa ob tb fo rv ro (1 : Int32) (flI 24 (0 : Int32) ov) (flI 24 (-1 : Int32) sh) tu rk cb rlo rhi rl rg tf kn tl th tv) := hD
    refine lv_aload_n hx hb dX5_learn_29 rfl (lv_at hl 0 rfl) ?_
    refine va_get (D := (dC, dI)) (ci := 5) (v := .ref (q 22)) (C := RX5) (T := TX5) (N := 7) hx hb hts hwX5_learn_RX5 hown hK hP 19 rfl rfl 2 (by decide) (hts _ mwX5_learn_3) (fun _ h9 => h9) rfl dX5_learn_30 ?_
    refine lv_iconst (v := (0 : Int32)) hx hb dX5_learn_33 (by decide) ?_
    refine call_V C0 (run_S C0 (rest := []) (kflI l (dC, dI) (ty3 cI cJ cZ) _ 22 (q 22) cI 24 tu (0 : Int32) rfl rfl (by decide) _) (va_cwS 2 hts gX5_learn_J7_fill_53178 rfl rfl rfl (by decide +kernel) ⟨by decide, by decide⟩) hP hD rfl hl.1 rfl (Nat.le_of_ble_eq_true rfl) dX5_learn_34) hD hS (fun H locs hP hD hS => ?_)
    have hP : va_P (dC, dI) vwCl (wC q cI cJ cZ nr wd sg lw hg fr to sn pl kd tg sa sb bn mt pa ob tb fo rv ro (1 : Int32) (flI 24 (0 : Int32) ov) (flI 24 (-1 : Int32) sh) (flI 24 (0 : Int32) tu) rk cb rlo rhi rl rg tf kn tl th tv) H := hP
    have hD : va_D A (wC q cI cJ cZ nr wd sg lw hg fr to sn pl kd tg sa sb bn mt pa ob tb fo rv ro (1 : Int32) (flI 24 (0 : Int32) ov) (flI 24 (-1 : Int32) sh) (flI 24 (0 : Int32) tu) rk cb rlo rhi rl rg tf kn tl th tv) := hD
    refine lv_aload_n hx hb dX5_learn_37 rfl (lv_at hl 0 rfl) ?_
    refine lv_iconst (v := (0 : Int32)) hx hb dX5_learn_38 (by decide) ?_
    refine va_put (D := (dC, dI)) (ci := 5) (v := .int (0 : Int32)) (ty := .int) (C := RX5) (T := TX5) (N := 7) hx hb hts hwX5_learn_RX5 tyX5 tyX5_ok nmX5 hown hK hP hD hS 19 rfl rfl 3 (by decide) (hts _ mwX5_learn_4) (fun _ h9 => h9) rfl (by decide +kernel) rfl rfl (Nat.le_of_ble_eq_true rfl) dX5_learn_39 (fun H locs hP hD hS => ?_)
    have hP : va_P (dC, dI) vwCl (wC q cI cJ cZ nr wd sg lw hg fr to sn pl kd tg sa sb bn mt pa ob tb fo rv (0 : Int32) (1 : Int32) (flI 24 (0 : Int32) ov) (flI 24 (-1 : Int32) sh) (flI 24 (0 : Int32) tu) rk cb rlo rhi rl rg tf kn tl th tv) H := hP
    have hD : va_D A (wC q cI cJ cZ nr wd sg lw hg fr to sn pl kd tg sa sb bn mt pa ob tb fo rv (0 : Int32) (1 : Int32) (flI 24 (0 : Int32) ov) (flI 24 (-1 : Int32) sh) (flI 24 (0 : Int32) tu) rk cb rlo rhi rl rg tf kn tl th tv) := hD
    refine lv_aload_n hx hb dX5_learn_42 rfl (lv_at hl 0 rfl) ?_
    refine va_get (D := (dC, dI)) (ci := 5) (v := .ref (q 6)) (C := RX5) (T := TX5) (N := 7) hx hb hts hwX5_learn_RX5 hown hK hP 19 rfl rfl 6 (by decide) (hts _ mwX5_learn_5) (fun _ h9 => h9) rfl dX5_learn_43 ?_
    refine va_get (D := (dC, dI)) (ci := 0) (v := .ref (q 7)) (C := RX0) (T := TX0) (N := 2) hx hb hts hwX5_learn_RX0 hown hK hP 6 rfl rfl 0 (by decide) (hts _ mwX5_learn_6) (fun _ h9 => h9) rfl dX5_learn_46 ?_
    refine lv_iconst (v := (0 : Int32)) hx hb dX5_learn_49 (by decide) ?_
    refine va_iald (D := (dC, dI)) (cl := vwCl) hx hb hK hP 7 0 rfl rfl (show ¬ ((0 : Int32) < 0 ∨ 2 ≤ Int32.toNatClampNeg (0 : Int32)) by decide) dX5_learn_50 ?_
    refine lv_istore_n (lv' := [(1, .int (fr (Int32.toNatClampNeg (0 : Int32)))), (0, .ref (q 19))]) hx hb dX5_learn_51 rfl hl (by decide) rfl (fun ls hl => ?_)
    exact zX5_learn_L52 C0  FU ob tb fo rv (0 : Int32) (1 : Int32) (flI 24 (0 : Int32) ov) (flI 24 (-1 : Int32) sh) (flI 24 (0 : Int32) tu) (fr (Int32.toNatClampNeg (0 : Int32))) _ _ ls hP hD hS (lv_sub hl [1, 0] rfl) hres
  · replace hres := mi_n c_1 hres
    obtain rfl := Option.some.inj hres
    exact ret_V C0 hP hD hS dX5_learn_7
/-! ### SumsOver$Trues.give(IJ)V -/
set_option maxRecDepth 20000 in
theorem hwX6_give_RX6 : ∀ w ∈ u_ws RX6 TX6 7, w ∈ wsX6_give := by decide +kernel
theorem mwX6_give_0 : (.fieldLink RX6 18 "SumsOver$Trues" "values" "[J" : Cond) ∈ wsX6_give := by decide +kernel
theorem mwX6_give_1 : (.fieldLink RX6 9 "SumsOver$Trues" "least" "[J" : Cond) ∈ wsX6_give := by decide +kernel
theorem mwX6_give_2 : (.methodLink RX6 101 Lib.MathLoose.min_long.x : Cond) ∈ wsX6_give := by decide +kernel
theorem mwX6_give_3 : (.static Lib.MathLoose.min_long.x : Cond) ∈ wsX6_give := by decide +kernel
theorem mwX6_give_4 : (.initialized "java/lang/Math" : Cond) ∈ wsX6_give := by decide +kernel
theorem mwX6_give_5 : (.code Lib.MathLoose.min_long.x Lib.MathLoose.min_long.code 4 (some .long) : Cond) ∈ wsX6_give := by decide +kernel
theorem mwX6_give_6 : (.fieldLink RX6 15 "SumsOver$Trues" "greatest" "[J" : Cond) ∈ wsX6_give := by decide +kernel
theorem mwX6_give_7 : (.methodLink RX6 105 Lib.MathLoose.max_long.x : Cond) ∈ wsX6_give := by decide +kernel
theorem mwX6_give_8 : (.static Lib.MathLoose.max_long.x : Cond) ∈ wsX6_give := by decide +kernel
theorem mwX6_give_9 : (.code Lib.MathLoose.max_long.x Lib.MathLoose.max_long.code 4 (some .long) : Cond) ∈ wsX6_give := by decide +kernel
theorem mwX6_give_10 : (.methodLink RX6 93 Lib.MathLoose.abs_long.x : Cond) ∈ wsX6_give := by decide +kernel
theorem mwX6_give_11 : (.static Lib.MathLoose.abs_long.x : Cond) ∈ wsX6_give := by decide +kernel
theorem mwX6_give_12 : (.code Lib.MathLoose.abs_long.x Lib.MathLoose.abs_long.code 2 (some .long) : Cond) ∈ wsX6_give := by decide +kernel
theorem mwX6_give_13 : (.constantLong RX6 99 (1099511627776) : Cond) ∈ wsX6_give := by decide +kernel
theorem mwX6_give_14 : (.fieldLink RX6 33 "SumsOver$Trues" "tooFar" "Z" : Cond) ∈ wsX6_give := by decide +kernel
def rmX6_give : Room := { frames := 1, cells := 0, slots := 0, locals := 23 }
set_option maxHeartbeats 4000000 in
set_option maxRecDepth 100000 in
theorem kX6_give (l : Launch) (dC : Nat → ClassId) (dI : Nat → Nat → Nat) (q : Nat → Nat) (cI cJ cZ : ClassId) (nr : Int32) (wd : Nat → Int32) (sg : Nat → Int32) (lw : Nat → Int64) (hg : Nat → Int64) (fr : Nat → Int32) (to : Nat → Int32) (sn : Int32) (pl : Int32) (kd : Nat → Int32) (tg : Nat → Int32) (sa : Nat → Int32) (sb : Nat → Int32) (bn : Nat → Int32) (mt : Nat → Int32) (pa : Nat → Int32) (ob : Int32) (tb : Int32) (fo : Int32) (rv : Nat → Int64) (ro : Int32) (tk : Int32) (ov : Nat → Int32) (sh : Nat → Int32) (tu : Nat → Int32) (rk : Int32) (cb : Int32) (rlo : Int64) (rhi : Int64) (rl : Nat → Int64) (rg : Nat → Int64) (tf : Int32) (kn : Int32) (tl : Nat → Int64) (th : Nat → Int64) (tv : Nat → Int64) (x1 : Int32) (x2 : Int64) (RES : (Int32) × (Nat → Int64) × (Nat → Int64) × (Nat → Int64)) (hres : mX6_give tf tl th tv x1 x2 = some RES) : CtV l yX6_give wsX6_give rmX6_give (dC, dI) (ty3 cI cJ cZ) (wC q cI cJ cZ nr wd sg lw hg fr to sn pl kd tg sa sb bn mt pa ob tb fo rv ro tk ov sh tu rk cb rlo rhi rl rg tf kn tl th tv) [.ref (q 26), .int x1, .long x2] (wC q cI cJ cZ nr wd sg lw hg fr to sn pl kd tg sa sb bn mt pa ob tb fo rv ro tk ov sh tu rk cb rlo rhi rl rg RES.1 kn RES.2.1 RES.2.2.1 RES.2.2.2) := by
  intro sz
  refine ct_entry (cc := cX6_give) (maxL := 4) (ret := none) (own := RX6) (by decide) rfl rfl (Nat.le_of_ble_eq_true rfl) (ll := [(0, .ref (q 26)), (1, .int x1), (2, .long x2)]) rfl ?_
  intro p e s m args below meth c hsz C0 _ hP hD ls hl
  have C1 := C0
  obtain ⟨hx, hb, hr, hml, hown, hts, hlocks, hN, hK, hA⟩ := C1
  have hS : va_S (va_A (wC q cI cJ cZ nr wd sg lw hg fr to sn pl kd tg sa sb bn mt pa ob tb fo rv ro tk ov sh tu rk cb rlo rhi rl rg tf kn tl th tv) sz) s.heap s.heap [] := va_S.rf
  generalize va_A (wC q cI cJ cZ nr wd sg lw hg fr to sn pl kd tg sa sb bn mt pa ob tb fo rv ro tk ov sh tu rk cb rlo rhi rl rg tf kn tl th tv) sz = A at C0 hD hA hS ⊢
  show W p l e rmX6_give s m args below meth c s.heap [] 0 0 (QV below args s A (dC, dI) (ty3 cI cJ cZ) (wC q cI cJ cZ nr wd sg lw hg fr to sn pl kd tg sa sb bn mt pa ob tb fo rv ro tk ov sh tu rk cb rlo rhi rl rg RES.1 kn RES.2.1 RES.2.2.1 RES.2.2.2)) (F0 m 0 ls [])
  unfold mX6_give at hres
  refine lv_aload_n hx hb dX6_give_0 rfl (lv_at hl 0 rfl) ?_
  refine va_get (D := (dC, dI)) (ci := 6) (v := .ref (q 29)) (C := RX6) (T := TX6) (N := 7) hx hb hts hwX6_give_RX6 hown hK hP 26 rfl rfl 4 (by decide) (hts _ mwX6_give_0) (fun _ h9 => h9) rfl dX6_give_1 ?_
  refine lv_iload_n hx hb dX6_give_4 rfl (lv_at hl 1 rfl) ?_
  refine lv_lload_n hx hb dX6_give_5 rfl (lv_at hl 2 rfl) ?_
  obtain ⟨g_1, hres⟩ := mi_g hres
  refine va_last (D := (dC, dI)) (cl := vwCl) hx hb hK hP hD hS 29 1 rfl rfl g_1 dX6_give_6 (fun H locs hP hD hS => ?_)
  have hP : va_P (dC, dI) vwCl (wC q cI cJ cZ nr wd sg lw hg fr to sn pl kd tg sa sb bn mt pa ob tb fo rv ro tk ov sh tu rk cb rlo rhi rl rg tf kn tl th (vp_updL tv (Int32.toNatClampNeg x1) x2)) H := hP
  have hD : va_D A (wC q cI cJ cZ nr wd sg lw hg fr to sn pl kd tg sa sb bn mt pa ob tb fo rv ro tk ov sh tu rk cb rlo rhi rl rg tf kn tl th (vp_updL tv (Int32.toNatClampNeg x1) x2)) := hD
  refine lv_aload_n hx hb dX6_give_7 rfl (lv_at hl 0 rfl) ?_
  refine va_get (D := (dC, dI)) (ci := 6) (v := .ref (q 27)) (C := RX6) (T := TX6) (N := 7) hx hb hts hwX6_give_RX6 hown hK hP 26 rfl rfl 0 (by decide) (hts _ mwX6_give_1) (fun _ h9 => h9) rfl dX6_give_8 ?_
  refine lv_iload_n hx hb dX6_give_11 rfl (lv_at hl 1 rfl) ?_
  refine lv_aload_n hx hb dX6_give_12 rfl (lv_at hl 0 rfl) ?_
  refine va_get (D := (dC, dI)) (ci := 6) (v := .ref (q 27)) (C := RX6) (T := TX6) (N := 7) hx hb hts hwX6_give_RX6 hown hK hP 26 rfl rfl 0 (by decide) (hts _ mwX6_give_1) (fun _ h9 => h9) rfl dX6_give_13 ?_
  refine lv_iload_n hx hb dX6_give_16 rfl (lv_at hl 1 rfl) ?_
  refine va_lald (D := (dC, dI)) (cl := vwCl) hx hb hK hP 27 1 rfl rfl g_1 dX6_give_17 ?_
  refine lv_lload_n hx hb dX6_give_18 rfl (lv_at hl 2 rfl) ?_
  refine va_mmin_long hx hb (hml.trans hl.1.symm) hown (hts _ mwX6_give_2) (hts _ mwX6_give_3) (hts _ mwX6_give_4) (hts _ mwX6_give_5) (Nat.le_of_ble_eq_true rfl) (Nat.le_of_ble_eq_true rfl) (Nat.zero_le _) (Nat.zero_le _) dX6_give_19 ?_
  refine va_last (D := (dC, dI)) (cl := vwCl) hx hb hK hP hD hS 27 1 rfl rfl g_1 dX6_give_22 (fun H locs hP hD hS => ?_)
  have hP : va_P (dC, dI) vwCl (wC q cI cJ cZ nr wd sg lw hg fr to sn pl kd tg sa sb bn mt pa ob tb fo rv ro tk ov sh tu rk cb rlo rhi rl rg tf kn (vp_updL tl (Int32.toNatClampNeg x1) (if x2 < (tl (Int32.toNatClampNeg x1)) then x2 else (tl (Int32.toNatClampNeg x1)))) th (vp_updL tv (Int32.toNatClampNeg x1) x2)) H := hP
  have hD : va_D A (wC q cI cJ cZ nr wd sg lw hg fr to sn pl kd tg sa sb bn mt pa ob tb fo rv ro tk ov sh tu rk cb rlo rhi rl rg tf kn (vp_updL tl (Int32.toNatClampNeg x1) (if x2 < (tl (Int32.toNatClampNeg x1)) then x2 else (tl (Int32.toNatClampNeg x1)))) th (vp_updL tv (Int32.toNatClampNeg x1) x2)) := hD
  refine lv_aload_n hx hb dX6_give_23 rfl (lv_at hl 0 rfl) ?_
  refine va_get (D := (dC, dI)) (ci := 6) (v := .ref (q 28)) (C := RX6) (T := TX6) (N := 7) hx hb hts hwX6_give_RX6 hown hK hP 26 rfl rfl 1 (by decide) (hts _ mwX6_give_6) (fun _ h9 => h9) rfl dX6_give_24 ?_
  refine lv_iload_n hx hb dX6_give_27 rfl (lv_at hl 1 rfl) ?_
  refine lv_aload_n hx hb dX6_give_28 rfl (lv_at hl 0 rfl) ?_
  refine va_get (D := (dC, dI)) (ci := 6) (v := .ref (q 28)) (C := RX6) (T := TX6) (N := 7) hx hb hts hwX6_give_RX6 hown hK hP 26 rfl rfl 1 (by decide) (hts _ mwX6_give_6) (fun _ h9 => h9) rfl dX6_give_29 ?_
  refine lv_iload_n hx hb dX6_give_32 rfl (lv_at hl 1 rfl) ?_
  refine va_lald (D := (dC, dI)) (cl := vwCl) hx hb hK hP 28 1 rfl rfl g_1 dX6_give_33 ?_
  refine lv_lload_n hx hb dX6_give_34 rfl (lv_at hl 2 rfl) ?_
  refine va_mmax_long hx hb (hml.trans hl.1.symm) hown (hts _ mwX6_give_7) (hts _ mwX6_give_8) (hts _ mwX6_give_4) (hts _ mwX6_give_9) (Nat.le_of_ble_eq_true rfl) (Nat.le_of_ble_eq_true rfl) (Nat.zero_le _) (Nat.zero_le _) dX6_give_35 ?_
  refine va_last (D := (dC, dI)) (cl := vwCl) hx hb hK hP hD hS 28 1 rfl rfl g_1 dX6_give_38 (fun H locs hP hD hS => ?_)
  have hP : va_P (dC, dI) vwCl (wC q cI cJ cZ nr wd sg lw hg fr to sn pl kd tg sa sb bn mt pa ob tb fo rv ro tk ov sh tu rk cb rlo rhi rl rg tf kn (vp_updL tl (Int32.toNatClampNeg x1) (if x2 < (tl (Int32.toNatClampNeg x1)) then x2 else (tl (Int32.toNatClampNeg x1)))) (vp_updL th (Int32.toNatClampNeg x1) (if x2 < (th (Int32.toNatClampNeg x1)) then (th (Int32.toNatClampNeg x1)) else x2)) (vp_updL tv (Int32.toNatClampNeg x1) x2)) H := hP
  have hD : va_D A (wC q cI cJ cZ nr wd sg lw hg fr to sn pl kd tg sa sb bn mt pa ob tb fo rv ro tk ov sh tu rk cb rlo rhi rl rg tf kn (vp_updL tl (Int32.toNatClampNeg x1) (if x2 < (tl (Int32.toNatClampNeg x1)) then x2 else (tl (Int32.toNatClampNeg x1)))) (vp_updL th (Int32.toNatClampNeg x1) (if x2 < (th (Int32.toNatClampNeg x1)) then (th (Int32.toNatClampNeg x1)) else x2)) (vp_updL tv (Int32.toNatClampNeg x1) x2)) := hD
  refine lv_lload_n hx hb dX6_give_39 rfl (lv_at hl 2 rfl) ?_
  refine va_mabs_long hx hb (hml.trans hl.1.symm) hown (hts _ mwX6_give_10) (hts _ mwX6_give_11) (hts _ mwX6_give_4) (hts _ mwX6_give_12) (Nat.le_of_ble_eq_true rfl) (Nat.le_of_ble_eq_true rfl) (Nat.zero_le _) (Nat.zero_le _) dX6_give_40 ?_
  refine lv_ldc2 (own := RX6) (v := (1099511627776 : Int64)) hx hb hown (hts _ mwX6_give_13) dX6_give_43 ?_
  refine W.lcmp hx hb dX6_give_46 ?_
  refine lv_if_le (tgt := 55) hx hb dX6_give_47 (by decide) (fun c_2 => ?_) (fun c_2 => ?_)
  · rw [lg_cmp_le] at c_2
    replace hres := mi_p c_2 hres
    obtain rfl := Option.some.inj hres
    exact ret_V C0 hP hD hS dX6_give_55
  · rw [lg_cmp_le] at c_2
    replace hres := mi_n c_2 hres
    refine lv_aload_n hx hb dX6_give_50 rfl (lv_at hl 0 rfl) ?_
    refine lv_iconst (v := (1 : Int32)) hx hb dX6_give_51 (by decide) ?_
    refine va_put (D := (dC, dI)) (ci := 6) (v := .int (1 : Int32)) (ty := .boolean) (C := RX6) (T := TX6) (N := 7) hx hb hts hwX6_give_RX6 tyX6 tyX6_ok nmX6 hown hK hP hD hS 26 rfl rfl 2 (by decide) (hts _ mwX6_give_14) (fun _ h9 => h9) rfl (by decide +kernel) rfl rfl (Nat.le_of_ble_eq_true rfl) dX6_give_52 (fun H locs hP hD hS => ?_)
    have hP : va_P (dC, dI) vwCl (wC q cI cJ cZ nr wd sg lw hg fr to sn pl kd tg sa sb bn mt pa ob tb fo rv ro tk ov sh tu rk cb rlo rhi rl rg (1 : Int32) kn (vp_updL tl (Int32.toNatClampNeg x1) (if x2 < (tl (Int32.toNatClampNeg x1)) then x2 else (tl (Int32.toNatClampNeg x1)))) (vp_updL th (Int32.toNatClampNeg x1) (if x2 < (th (Int32.toNatClampNeg x1)) then (th (Int32.toNatClampNeg x1)) else x2)) (vp_updL tv (Int32.toNatClampNeg x1) x2)) H := hP
    have hD : va_D A (wC q cI cJ cZ nr wd sg lw hg fr to sn pl kd tg sa sb bn mt pa ob tb fo rv ro tk ov sh tu rk cb rlo rhi rl rg (1 : Int32) kn (vp_updL tl (Int32.toNatClampNeg x1) (if x2 < (tl (Int32.toNatClampNeg x1)) then x2 else (tl (Int32.toNatClampNeg x1)))) (vp_updL th (Int32.toNatClampNeg x1) (if x2 < (th (Int32.toNatClampNeg x1)) then (th (Int32.toNatClampNeg x1)) else x2)) (vp_updL tv (Int32.toNatClampNeg x1) x2)) := hD
    obtain rfl := Option.some.inj hres
    exact ret_V C0 hP hD hS dX6_give_55
/-! ### SumsOver$Trues.perform(I)V -/
set_option maxRecDepth 20000 in
theorem hwX6_perform_RX6 : ∀ w ∈ u_ws RX6 TX6 7, w ∈ wsX6_perform := by decide +kernel
theorem mwX6_perform_0 : (.fieldLink RX6 21 "SumsOver$Trues" "steps" "LSumsOver$Steps;" : Cond) ∈ wsX6_perform := by decide +kernel
set_option maxRecDepth 20000 in
theorem hwX6_perform_RX4 : ∀ w ∈ u_ws RX4 TX4 9, w ∈ wsX6_perform := by decide +kernel
theorem mwX6_perform_1 : (.fieldLink RX6 72 "SumsOver$Steps" "kinds" "[I" : Cond) ∈ wsX6_perform := by decide +kernel
theorem mwX6_perform_2 : (.fieldLink RX6 18 "SumsOver$Trues" "values" "[J" : Cond) ∈ wsX6_perform := by decide +kernel
theorem mwX6_perform_3 : (.fieldLink RX6 86 "SumsOver$Steps" "targets" "[I" : Cond) ∈ wsX6_perform := by decide +kernel
theorem mwX6_perform_4 : (.initialized RX7 : Cond) ∈ wsX6_perform := by decide +kernel
theorem mwX6_perform_5 : (.static yX7_made : Cond) ∈ wsX6_perform := by decide +kernel
theorem mwX6_perform_6 : (.fieldLink RX6 33 "SumsOver$Trues" "tooFar" "Z" : Cond) ∈ wsX6_perform := by decide +kernel
def rmX6_perform : Room := { frames := 2, cells := 0, slots := 0, locals := 47 }
set_option maxHeartbeats 4000000 in
set_option maxRecDepth 100000 in
theorem kX6_perform (l : Launch) (dC : Nat → ClassId) (dI : Nat → Nat → Nat) (q : Nat → Nat) (cI cJ cZ : ClassId) (nr : Int32) (wd : Nat → Int32) (sg : Nat → Int32) (lw : Nat → Int64) (hg : Nat → Int64) (fr : Nat → Int32) (to : Nat → Int32) (sn : Int32) (pl : Int32) (kd : Nat → Int32) (tg : Nat → Int32) (sa : Nat → Int32) (sb : Nat → Int32) (bn : Nat → Int32) (mt : Nat → Int32) (pa : Nat → Int32) (ob : Int32) (tb : Int32) (fo : Int32) (rv : Nat → Int64) (ro : Int32) (tk : Int32) (ov : Nat → Int32) (sh : Nat → Int32) (tu : Nat → Int32) (rk : Int32) (cb : Int32) (rlo : Int64) (rhi : Int64) (rl : Nat → Int64) (rg : Nat → Int64) (tf : Int32) (kn : Int32) (tl : Nat → Int64) (th : Nat → Int64) (tv : Nat → Int64) (x1 : Int32) (RES : (Int32) × (Nat → Int64) × (Nat → Int64) × (Nat → Int64)) (hres : mX6_perform kd tg sa sb bn tf tl th tv x1 = some RES) : CtV l yX6_perform wsX6_perform rmX6_perform (dC, dI) (ty3 cI cJ cZ) (wC q cI cJ cZ nr wd sg lw hg fr to sn pl kd tg sa sb bn mt pa ob tb fo rv ro tk ov sh tu rk cb rlo rhi rl rg tf kn tl th tv) [.ref (q 26), .int x1] (wC q cI cJ cZ nr wd sg lw hg fr to sn pl kd tg sa sb bn mt pa ob tb fo rv ro tk ov sh tu rk cb rlo rhi rl rg RES.1 kn RES.2.1 RES.2.2.1 RES.2.2.2) := by
  intro sz
  refine ct_entry (cc := cX6_perform) (maxL := 7) (ret := none) (own := RX6) (by decide) rfl rfl (Nat.le_of_ble_eq_true rfl) (ll := [(0, .ref (q 26)), (1, .int x1)]) rfl ?_
  intro p e s m args below meth c hsz C0 _ hP hD ls hl
  have C1 := C0
  obtain ⟨hx, hb, hr, hml, hown, hts, hlocks, hN, hK, hA⟩ := C1
  have hS : va_S (va_A (wC q cI cJ cZ nr wd sg lw hg fr to sn pl kd tg sa sb bn mt pa ob tb fo rv ro tk ov sh tu rk cb rlo rhi rl rg tf kn tl th tv) sz) s.heap s.heap [] := va_S.rf
  generalize va_A (wC q cI cJ cZ nr wd sg lw hg fr to sn pl kd tg sa sb bn mt pa ob tb fo rv ro tk ov sh tu rk cb rlo rhi rl rg tf kn tl th tv) sz = A at C0 hD hA hS ⊢
  show W p l e rmX6_perform s m args below meth c s.heap [] 0 0 (QV below args s A (dC, dI) (ty3 cI cJ cZ) (wC q cI cJ cZ nr wd sg lw hg fr to sn pl kd tg sa sb bn mt pa ob tb fo rv ro tk ov sh tu rk cb rlo rhi rl rg RES.1 kn RES.2.1 RES.2.2.1 RES.2.2.2)) (F0 m 0 ls [])
  unfold mX6_perform at hres
  refine lv_aload_n hx hb dX6_perform_0 rfl (lv_at hl 0 rfl) ?_
  refine va_get (D := (dC, dI)) (ci := 6) (v := .ref (q 9)) (C := RX6) (T := TX6) (N := 7) hx hb hts hwX6_perform_RX6 hown hK hP 26 rfl rfl 5 (by decide) (hts _ mwX6_perform_0) (fun _ h9 => h9) rfl dX6_perform_1 ?_
  refine va_get (D := (dC, dI)) (ci := 4) (v := .ref (q 10)) (C := RX4) (T := TX4) (N := 9) hx hb hts hwX6_perform_RX4 hown hK hP 9 rfl rfl 0 (by decide) (hts _ mwX6_perform_1) (fun _ h9 => h9) rfl dX6_perform_4 ?_
  refine lv_iload_n hx hb dX6_perform_7 rfl (lv_at hl 1 rfl) ?_
  obtain ⟨g_1, hres⟩ := mi_g hres
  refine va_iald (D := (dC, dI)) (cl := vwCl) hx hb hK hP 10 0 rfl rfl g_1 dX6_perform_8 ?_
  refine lv_istore_n (lv' := [(2, .int (kd (Int32.toNatClampNeg x1))), (0, .ref (q 26)), (1, .int x1)]) hx hb dX6_perform_9 rfl hl (by decide) rfl (fun ls hl => ?_)
  refine lv_aload_n hx hb dX6_perform_10 rfl (lv_at hl 1 rfl) ?_
  refine va_get (D := (dC, dI)) (ci := 6) (v := .ref (q 9)) (C := RX6) (T := TX6) (N := 7) hx hb hts hwX6_perform_RX6 hown hK hP 26 rfl rfl 5 (by decide) (hts _ mwX6_perform_0) (fun _ h9 => h9) rfl dX6_perform_11 ?_
  refine lv_iload_n hx hb dX6_perform_14 rfl (lv_at hl 2 rfl) ?_
  refine lv_aload_n hx hb dX6_perform_15 rfl (lv_at hl 1 rfl) ?_
  refine va_get (D := (dC, dI)) (ci := 6) (v := .ref (q 29)) (C := RX6) (T := TX6) (N := 7) hx hb hts hwX6_perform_RX6 hown hK hP 26 rfl rfl 4 (by decide) (hts _ mwX6_perform_2) (fun _ h9 => h9) rfl dX6_perform_16 ?_
  obtain ⟨u2, hu2, hres⟩ := mi_b hres
  refine call_L C0 (run_V C0 (rest := []) (kX4_valueOfA l dC dI q cI cJ cZ nr wd sg lw hg fr to sn pl kd tg sa sb bn mt pa ob tb fo rv ro tk ov sh tu rk cb rlo rhi rl rg tf kn tl th tv 29 (q 29) tv rfl x1 u2 hu2 _) (cwV 2 hts gX6_perform_X4_valueOfA rfl rfl rfl (by decide +kernel) ⟨by decide, by decide⟩) hP hD (ci := 4) (q0 := 9) rfl rfl rfl hl.1 rfl (Nat.le_of_ble_eq_true rfl) dX6_perform_19) hD hS (fun H locs hP hD hS => ?_)
  refine lv_lstore_n (lv' := [(3, .long u2), (2, .int (kd (Int32.toNatClampNeg x1))), (0, .ref (q 26)), (1, .int x1)]) hx hb dX6_perform_22 rfl hl (by decide) rfl (fun ls hl => ?_)
  refine lv_aload_n hx hb dX6_perform_23 rfl (lv_at hl 2 rfl) ?_
  refine va_get (D := (dC, dI)) (ci := 6) (v := .ref (q 9)) (C := RX6) (T := TX6) (N := 7) hx hb hts hwX6_perform_RX6 hown hK hP 26 rfl rfl 5 (by decide) (hts _ mwX6_perform_0) (fun _ h9 => h9) rfl dX6_perform_24 ?_
  refine lv_iload_n hx hb dX6_perform_27 rfl (lv_at hl 3 rfl) ?_
  refine lv_aload_n hx hb dX6_perform_28 rfl (lv_at hl 2 rfl) ?_
  refine va_get (D := (dC, dI)) (ci := 6) (v := .ref (q 29)) (C := RX6) (T := TX6) (N := 7) hx hb hts hwX6_perform_RX6 hown hK hP 26 rfl rfl 4 (by decide) (hts _ mwX6_perform_2) (fun _ h9 => h9) rfl dX6_perform_29 ?_
  obtain ⟨u3, hu3, hres⟩ := mi_b hres
  refine call_L C0 (run_V C0 (rest := []) (kX4_valueOfB l dC dI q cI cJ cZ nr wd sg lw hg fr to sn pl kd tg sa sb bn mt pa ob tb fo rv ro tk ov sh tu rk cb rlo rhi rl rg tf kn tl th tv 29 (q 29) tv rfl x1 u3 hu3 _) (cwV 2 hts gX6_perform_X4_valueOfB rfl rfl rfl (by decide +kernel) ⟨by decide, by decide⟩) hP hD (ci := 4) (q0 := 9) rfl rfl rfl hl.1 rfl (Nat.le_of_ble_eq_true rfl) dX6_perform_32) hD hS (fun H locs hP hD hS => ?_)
  refine lv_lstore (lv' := [(5, .long u3), (3, .long u2), (2, .int (kd (Int32.toNatClampNeg x1))), (0, .ref (q 26)), (1, .int x1)]) hx hb dX6_perform_35 hl (by decide) rfl (fun ls hl => ?_)
  refine lv_iload_n hx hb dX6_perform_37 rfl (lv_at hl 2 rfl) ?_
  refine lv_iconst (v := (4 : Int32)) hx hb dX6_perform_38 (by decide) ?_
  refine lv_icmp_ne (tgt := 59) hx hb dX6_perform_39 (by decide) (fun c_4 => ?_) (fun c_4 => ?_)
  · replace hres := mi_n c_4 hres
    refine lv_aload_n hx hb dX6_perform_59 rfl (lv_at hl 3 rfl) ?_
    refine lv_aload_n hx hb dX6_perform_60 rfl (lv_at hl 3 rfl) ?_
    refine va_get (D := (dC, dI)) (ci := 6) (v := .ref (q 9)) (C := RX6) (T := TX6) (N := 7) hx hb hts hwX6_perform_RX6 hown hK hP 26 rfl rfl 5 (by decide) (hts _ mwX6_perform_0) (fun _ h9 => h9) rfl dX6_perform_61 ?_
    refine va_get (D := (dC, dI)) (ci := 4) (v := .ref (q 11)) (C := RX4) (T := TX4) (N := 9) hx hb hts hwX6_perform_RX4 hown hK hP 9 rfl rfl 1 (by decide) (hts _ mwX6_perform_3) (fun _ h9 => h9) rfl dX6_perform_64 ?_
    refine lv_iload_n hx hb dX6_perform_67 rfl (lv_at hl 4 rfl) ?_
    refine va_iald (D := (dC, dI)) (cl := vwCl) hx hb hK hP 11 0 rfl rfl g_1 dX6_perform_68 ?_
    refine lv_iload_n hx hb dX6_perform_69 rfl (lv_at hl 2 rfl) ?_
    refine lv_lload_n hx hb dX6_perform_70 rfl (lv_at hl 1 rfl) ?_
    refine lv_lload hx hb dX6_perform_71 (lv_at hl 0 rfl) ?_
    obtain ⟨u5, hu5, hres⟩ := mi_b hres
    refine call_L C0 (run_SN C0 (rest := [.int (tg (Int32.toNatClampNeg x1)), .ref (q 26)]) (kX7_made l (dC, dI) (ty3 cI cJ cZ) (wC q cI cJ cZ nr wd sg lw hg fr to sn pl kd tg sa sb bn mt pa ob tb fo rv ro tk ov sh tu rk cb rlo rhi rl rg tf kn tl th tv) (kd (Int32.toNatClampNeg x1)) u2 u3 u5 hu5 _) ⟨va_cnB (host := RX7) 3 hts gX6_perform_X7_made_n89 rfl rfl rfl (hN (.methodLinkNest RX6 89 yX7_made RX7) (by decide +kernel)) (hts _ mwX6_perform_4) (by decide +kernel) ⟨by decide, by decide⟩, (hts _ mwX6_perform_5), trivial⟩ hP hD rfl hl.1 rfl (Nat.le_of_ble_eq_true rfl) dX6_perform_73) hD hS (fun H locs hP hD hS => ?_)
    obtain ⟨u6, hu6, hres⟩ := mi_b hres
    refine call_V C0 (run_V C0 (rest := []) (kX6_give l dC dI q cI cJ cZ nr wd sg lw hg fr to sn pl kd tg sa sb bn mt pa ob tb fo rv ro tk ov sh tu rk cb rlo rhi rl rg tf kn tl th tv  (tg (Int32.toNatClampNeg x1)) u5 u6 hu6 _) (cwV 2 hts gX6_perform_X6_give rfl rfl rfl (by decide +kernel) ⟨by decide, by decide⟩) hP hD (ci := 6) (q0 := 26) rfl rfl rfl hl.1 rfl (Nat.le_of_ble_eq_true rfl) dX6_perform_76) hD hS (fun H locs hP hD hS => ?_)
    obtain rfl := Option.some.inj hres
    exact ret_V C0 hP hD hS dX6_perform_79
  · replace hres := mi_p c_4 hres
    refine lv_lload_n hx hb dX6_perform_42 rfl (lv_at hl 1 rfl) ?_
    refine lv_lload hx hb dX6_perform_43 (lv_at hl 0 rfl) ?_
    obtain ⟨u7, hu7, hres⟩ := mi_b hres
    refine call_I C0 (run_S C0 (rest := []) (kX6_isProductTooFar l (dC, dI) (ty3 cI cJ cZ) (wC q cI cJ cZ nr wd sg lw hg fr to sn pl kd tg sa sb bn mt pa ob tb fo rv ro tk ov sh tu rk cb rlo rhi rl rg tf kn tl th tv) u2 u3 u7 hu7 _) (va_cwS 2 hts gX6_perform_X6_isProductTooFar rfl rfl rfl (by decide +kernel) ⟨by decide, by decide⟩) hP hD rfl hl.1 rfl (Nat.le_of_ble_eq_true rfl) dX6_perform_45) hD hS (fun H locs hP hD hS => ?_)
    refine lv_if_eq (tgt := 59) hx hb dX6_perform_48 (by decide) (fun c_8 => ?_) (fun c_8 => ?_)
    · replace hres := mi_p c_8 hres
      refine lv_aload_n hx hb dX6_perform_59 rfl (lv_at hl 3 rfl) ?_
      refine lv_aload_n hx hb dX6_perform_60 rfl (lv_at hl 3 rfl) ?_
      refine va_get (D := (dC, dI)) (ci := 6) (v := .ref (q 9)) (C := RX6) (T := TX6) (N := 7) hx hb hts hwX6_perform_RX6 hown hK hP 26 rfl rfl 5 (by decide) (hts _ mwX6_perform_0) (fun _ h9 => h9) rfl dX6_perform_61 ?_
      refine va_get (D := (dC, dI)) (ci := 4) (v := .ref (q 11)) (C := RX4) (T := TX4) (N := 9) hx hb hts hwX6_perform_RX4 hown hK hP 9 rfl rfl 1 (by decide) (hts _ mwX6_perform_3) (fun _ h9 => h9) rfl dX6_perform_64 ?_
      refine lv_iload_n hx hb dX6_perform_67 rfl (lv_at hl 4 rfl) ?_
      refine va_iald (D := (dC, dI)) (cl := vwCl) hx hb hK hP 11 0 rfl rfl g_1 dX6_perform_68 ?_
      refine lv_iload_n hx hb dX6_perform_69 rfl (lv_at hl 2 rfl) ?_
      refine lv_lload_n hx hb dX6_perform_70 rfl (lv_at hl 1 rfl) ?_
      refine lv_lload hx hb dX6_perform_71 (lv_at hl 0 rfl) ?_
      obtain ⟨u9, hu9, hres⟩ := mi_b hres
      refine call_L C0 (run_SN C0 (rest := [.int (tg (Int32.toNatClampNeg x1)), .ref (q 26)]) (kX7_made l (dC, dI) (ty3 cI cJ cZ) (wC q cI cJ cZ nr wd sg lw hg fr to sn pl kd tg sa sb bn mt pa ob tb fo rv ro tk ov sh tu rk cb rlo rhi rl rg tf kn tl th tv) (kd (Int32.toNatClampNeg x1)) u2 u3 u9 hu9 _) ⟨va_cnB (host := RX7) 3 hts gX6_perform_X7_made_n89 rfl rfl rfl (hN (.methodLinkNest RX6 89 yX7_made RX7) (by decide +kernel)) (hts _ mwX6_perform_4) (by decide +kernel) ⟨by decide, by decide⟩, (hts _ mwX6_perform_5), trivial⟩ hP hD rfl hl.1 rfl (Nat.le_of_ble_eq_true rfl) dX6_perform_73) hD hS (fun H locs hP hD hS => ?_)
      obtain ⟨u10, hu10, hres⟩ := mi_b hres
      refine call_V C0 (run_V C0 (rest := []) (kX6_give l dC dI q cI cJ cZ nr wd sg lw hg fr to sn pl kd tg sa sb bn mt pa ob tb fo rv ro tk ov sh tu rk cb rlo rhi rl rg tf kn tl th tv  (tg (Int32.toNatClampNeg x1)) u9 u10 hu10 _) (cwV 2 hts gX6_perform_X6_give rfl rfl rfl (by decide +kernel) ⟨by decide, by decide⟩) hP hD (ci := 6) (q0 := 26) rfl rfl rfl hl.1 rfl (Nat.le_of_ble_eq_true rfl) dX6_perform_76) hD hS (fun H locs hP hD hS => ?_)
      obtain rfl := Option.some.inj hres
      exact ret_V C0 hP hD hS dX6_perform_79
    · replace hres := mi_n c_8 hres
      refine lv_aload_n hx hb dX6_perform_51 rfl (lv_at hl 3 rfl) ?_
      refine lv_iconst (v := (1 : Int32)) hx hb dX6_perform_52 (by decide) ?_
      refine va_put (D := (dC, dI)) (ci := 6) (v := .int (1 : Int32)) (ty := .boolean) (C := RX6) (T := TX6) (N := 7) hx hb hts hwX6_perform_RX6 tyX6 tyX6_ok nmX6 hown hK hP hD hS 26 rfl rfl 2 (by decide) (hts _ mwX6_perform_6) (fun _ h9 => h9) rfl (by decide +kernel) rfl rfl (Nat.le_of_ble_eq_true rfl) dX6_perform_53 (fun H locs hP hD hS => ?_)
      have hP : va_P (dC, dI) vwCl (wC q cI cJ cZ nr wd sg lw hg fr to sn pl kd tg sa sb bn mt pa ob tb fo rv ro tk ov sh tu rk cb rlo rhi rl rg (1 : Int32) kn tl th tv) H := hP
      have hD : va_D A (wC q cI cJ cZ nr wd sg lw hg fr to sn pl kd tg sa sb bn mt pa ob tb fo rv ro tk ov sh tu rk cb rlo rhi rl rg (1 : Int32) kn tl th tv) := hD
      refine lv_goto (tgt := 79) hx hb dX6_perform_56 (by decide) ?_
      obtain rfl := Option.some.inj hres
      exact ret_V C0 hP hD hS dX6_perform_79
