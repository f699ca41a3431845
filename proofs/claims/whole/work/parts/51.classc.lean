/-! ### SumsOver$Trues.follow(II)V -/
set_option maxRecDepth 20000 in
theorem hwX6_follow_RX6 : ∀ w ∈ u_ws RX6 TX6 7, w ∈ wsX6_follow := by decide +kernel
theorem mwX6_follow_0 : (.fieldLink RX6 18 "SumsOver$Trues" "values" "[J" : Cond) ∈ wsX6_follow := by decide +kernel
theorem mwX6_follow_1 : (.fieldLink RX6 21 "SumsOver$Trues" "steps" "LSumsOver$Steps;" : Cond) ∈ wsX6_follow := by decide +kernel
set_option maxRecDepth 20000 in
theorem hwX6_follow_RX4 : ∀ w ∈ u_ws RX4 TX4 9, w ∈ wsX6_follow := by decide +kernel
theorem mwX6_follow_2 : (.fieldLink RX6 59 "SumsOver$Steps" "pathLength" "I" : Cond) ∈ wsX6_follow := by decide +kernel
theorem mwX6_follow_3 : (.fieldLink RX6 33 "SumsOver$Trues" "tooFar" "Z" : Cond) ∈ wsX6_follow := by decide +kernel
theorem mwX6_follow_4 : (.fieldLink RX6 65 "SumsOver$Steps" "path" "[I" : Cond) ∈ wsX6_follow := by decide +kernel
def rmX6_follow : Room := { frames := 3, cells := 0, slots := 0, locals := 73 }
def iX6_follow_L24 (p : Program) (l : Launch) (e : Env) (s : State) (m : MethodId) (args : Array Value) (below : List Frame) (meth : Method) (c : Code) (A : Nat → Prop) (dC : Nat → ClassId) (dI : Nat → Nat → Nat) (q : Nat → Nat) (cI cJ cZ : ClassId) (nr : Int32) (wd : Nat → Int32) (sg : Nat → Int32) (lw : Nat → Int64) (hg : Nat → Int64) (fr : Nat → Int32) (to : Nat → Int32) (sn : Int32) (pl : Int32) (kd : Nat → Int32) (tg : Nat → Int32) (sa : Nat → Int32) (sb : Nat → Int32) (bn : Nat → Int32) (mt : Nat → Int32) (pa : Nat → Int32) (ob : Int32) (tb : Int32) (fo : Int32) (rv : Nat → Int64) (ro : Int32) (tk : Int32) (ov : Nat → Int32) (sh : Nat → Int32) (tu : Nat → Int32) (rk : Int32) (cb : Int32) (rlo : Int64) (rhi : Int64) (rl : Nat → Int64) (rg : Nat → Int64) (kn : Int32)  (RES : (Int32) × (Nat → Int64) × (Nat → Int64) × (Nat → Int64)) (k : (Int32) → (Nat → Int64) → (Nat → Int64) → (Nat → Int64) → (Int32) → Option ((Int32) × (Nat → Int64) × (Nat → Int64) × (Nat → Int64))) : Prop := ∀ (tf : Int32) (tl : Nat → Int64) (th : Nat → Int64) (tv : Nat → Int64) (x3 : Int32) (H : Heap) (locs : List Loc) (ls : Array Slot), va_P (dC, dI) vwCl (wC q cI cJ cZ nr wd sg lw hg fr to sn pl kd tg sa sb bn mt pa ob tb fo rv ro tk ov sh tu rk cb rlo rhi rl rg tf kn tl th tv) H → va_D A (wC q cI cJ cZ nr wd sg lw hg fr to sn pl kd tg sa sb bn mt pa ob tb fo rv ro tk ov sh tu rk cb rlo rhi rl rg tf kn tl th tv) → va_S A s.heap H locs → lv_has ls 4 [(0, .ref (q 26)), (3, .int x3)] → k tf tl th tv x3 = some RES → W p l e rmX6_follow s m args below meth c H locs 0 0 (QV below args s A (dC, dI) (ty3 cI cJ cZ) (wC q cI cJ cZ nr wd sg lw hg fr to sn pl kd tg sa sb bn mt pa ob tb fo rv ro tk ov sh tu rk cb rlo rhi rl rg RES.1 kn RES.2.1 RES.2.2.1 RES.2.2.2)) (F0 m 24 ls [])
set_option maxHeartbeats 4000000 in
set_option maxRecDepth 100000 in
theorem zX6_follow_L24 {p : Program} {l : Launch} {e : Env} {s : State} {m : MethodId} {args : Array Value} {below : List Frame} {meth : Method} {c : Code} {A : Nat → Prop} {dC : Nat → ClassId} {dI : Nat → Nat → Nat} {q : Nat → Nat} {cI cJ cZ : ClassId} {nr : Int32} {wd : Nat → Int32} {sg : Nat → Int32} {lw : Nat → Int64} {hg : Nat → Int64} {fr : Nat → Int32} {to : Nat → Int32} {sn : Int32} {pl : Int32} {kd : Nat → Int32} {tg : Nat → Int32} {sa : Nat → Int32} {sb : Nat → Int32} {bn : Nat → Int32} {mt : Nat → Int32} {pa : Nat → Int32} {ob : Int32} {tb : Int32} {fo : Int32} {rv : Nat → Int64} {ro : Int32} {tk : Int32} {ov : Nat → Int32} {sh : Nat → Int32} {tu : Nat → Int32} {rk : Int32} {cb : Int32} {rlo : Int64} {rhi : Int64} {rl : Nat → Int64} {rg : Nat → Int64} {kn : Int32}  (C0 : Cx p s m args meth c cX6_follow 4 none RX6 wsX6_follow A (dC, dI) (ty3 cI cJ cZ)) {RES : (Int32) × (Nat → Int64) × (Nat → Int64) × (Nat → Int64)}  : ∀ n : Nat, iX6_follow_L24 p l e s m args below meth c A dC dI q cI cJ cZ nr wd sg lw hg fr to sn pl kd tg sa sb bn mt pa ob tb fo rv ro tk ov sh tu rk cb rlo rhi rl rg kn RES (mX6_follow_L24 pl kd tg sa sb bn pa n) := by
  have C1 := C0
  obtain ⟨hx, hb, hr, hml, hown, hts, hlocks, hN, hK, hA⟩ := C1
  intro n
  induction n with
  | zero =>
    intro tf tl th tv x3 H locs ls hP hD hS hl hres
    exact mi_0 hres
  | succ n ih =>
    intro tf tl th tv x3 H locs ls hP hD hS hl hres
    rw [mX6_follow_L24] at hres
    refine lv_iload_n hx hb dX6_follow_24 rfl (lv_at hl 1 rfl) ?_
    refine lv_aload_n hx hb dX6_follow_25 rfl (lv_at hl 0 rfl) ?_
    refine va_get (D := (dC, dI)) (ci := 6) (v := .ref (q 9)) (C := RX6) (T := TX6) (N := 7) hx hb hts hwX6_follow_RX6 hown hK hP 26 rfl rfl 5 (by decide) (hts _ mwX6_follow_1) (fun _ h9 => h9) rfl dX6_follow_26 ?_
    refine va_get (D := (dC, dI)) (ci := 4) (v := .int pl) (C := RX4) (T := TX4) (N := 9) hx hb hts hwX6_follow_RX4 hown hK hP 9 rfl rfl 8 (by decide) (hts _ mwX6_follow_2) (fun _ h9 => h9) rfl dX6_follow_29 ?_
    refine lv_icmp_ge (tgt := 61) hx hb dX6_follow_32 (by decide) (fun c_4 => ?_) (fun c_4 => ?_)
    · replace hres := mi_p c_4 hres
      obtain rfl := Option.some.inj hres
      exact ret_V C0 hP hD hS dX6_follow_61
    · replace hres := mi_n c_4 hres
      refine lv_aload_n hx hb dX6_follow_35 rfl (lv_at hl 0 rfl) ?_
      refine va_get (D := (dC, dI)) (ci := 6) (v := .int tf) (C := RX6) (T := TX6) (N := 7) hx hb hts hwX6_follow_RX6 hown hK hP 26 rfl rfl 2 (by decide) (hts _ mwX6_follow_3) (fun _ h9 => h9) rfl dX6_follow_36 ?_
      refine lv_if_ne (tgt := 61) hx hb dX6_follow_39 (by decide) (fun c_5 => ?_) (fun c_5 => ?_)
      · replace hres := mi_n c_5 hres
        obtain rfl := Option.some.inj hres
        exact ret_V C0 hP hD hS dX6_follow_61
      · replace hres := mi_p c_5 hres
        refine lv_aload_n hx hb dX6_follow_42 rfl (lv_at hl 0 rfl) ?_
        refine lv_aload_n hx hb dX6_follow_43 rfl (lv_at hl 0 rfl) ?_
        refine va_get (D := (dC, dI)) (ci := 6) (v := .ref (q 9)) (C := RX6) (T := TX6) (N := 7) hx hb hts hwX6_follow_RX6 hown hK hP 26 rfl rfl 5 (by decide) (hts _ mwX6_follow_1) (fun _ h9 => h9) rfl dX6_follow_44 ?_
        refine va_get (D := (dC, dI)) (ci := 4) (v := .ref (q 16)) (C := RX4) (T := TX4) (N := 9) hx hb hts hwX6_follow_RX4 hown hK hP 9 rfl rfl 7 (by decide) (hts _ mwX6_follow_4) (fun _ h9 => h9) rfl dX6_follow_47 ?_
        refine lv_iload_n hx hb dX6_follow_50 rfl (lv_at hl 1 rfl) ?_
        obtain ⟨g_6, hres⟩ := mi_g hres
        refine va_iald (D := (dC, dI)) (cl := vwCl) hx hb hK hP 16 0 rfl rfl g_6 dX6_follow_51 ?_
        obtain ⟨u7, hu7, hres⟩ := mi_b hres
        refine call_V C0 (run_V C0 (rest := []) (kX6_perform l dC dI q cI cJ cZ nr wd sg lw hg fr to sn pl kd tg sa sb bn mt pa ob tb fo rv ro tk ov sh tu rk cb rlo rhi rl rg tf kn tl th tv  (pa (Int32.toNatClampNeg x3)) u7 hu7 _) (cwV 1 hts gX6_follow_X6_perform rfl rfl rfl (by decide +kernel) ⟨by decide, by decide⟩) hP hD (ci := 6) (q0 := 26) rfl rfl rfl hl.1 rfl (Nat.le_of_ble_eq_true rfl) dX6_follow_52) hD hS (fun H locs hP hD hS => ?_)
        refine lv_iinc (v := x3 + (1 : Int32)) (lv' := [(3, .int (x3 + (1 : Int32))), (0, .ref (q 26))]) hx hb dX6_follow_55 hl (k := 1) rfl rfl (by decide) rfl (fun ls hl => ?_)
        refine lv_goto (tgt := 24) hx hb dX6_follow_58 (by decide) ?_
        exact ih u7.1 u7.2.1 u7.2.2.1 u7.2.2.2 (x3 + (1 : Int32)) _ _ ls hP hD hS (lv_sub hl [1, 0] rfl) hres
set_option maxHeartbeats 4000000 in
set_option maxRecDepth 100000 in
theorem kX6_follow (l : Launch) (dC : Nat → ClassId) (dI : Nat → Nat → Nat) (q : Nat → Nat) (cI cJ cZ : ClassId) (nr : Int32) (wd : Nat → Int32) (sg : Nat → Int32) (lw : Nat → Int64) (hg : Nat → Int64) (fr : Nat → Int32) (to : Nat → Int32) (sn : Int32) (pl : Int32) (kd : Nat → Int32) (tg : Nat → Int32) (sa : Nat → Int32) (sb : Nat → Int32) (bn : Nat → Int32) (mt : Nat → Int32) (pa : Nat → Int32) (ob : Int32) (tb : Int32) (fo : Int32) (rv : Nat → Int64) (ro : Int32) (tk : Int32) (ov : Nat → Int32) (sh : Nat → Int32) (tu : Nat → Int32) (rk : Int32) (cb : Int32) (rlo : Int64) (rhi : Int64) (rl : Nat → Int64) (rg : Nat → Int64) (tf : Int32) (kn : Int32) (tl : Nat → Int64) (th : Nat → Int64) (tv : Nat → Int64) (x1 : Int32) (x2 : Int32) (RES : (Int32) × (Nat → Int64) × (Nat → Int64) × (Nat → Int64)) (hres : mX6_follow pl kd tg sa sb bn pa tf tl th tv x1 x2 = some RES) : CtV l yX6_follow wsX6_follow rmX6_follow (dC, dI) (ty3 cI cJ cZ) (wC q cI cJ cZ nr wd sg lw hg fr to sn pl kd tg sa sb bn mt pa ob tb fo rv ro tk ov sh tu rk cb rlo rhi rl rg tf kn tl th tv) [.ref (q 26), .int x1, .int x2] (wC q cI cJ cZ nr wd sg lw hg fr to sn pl kd tg sa sb bn mt pa ob tb fo rv ro tk ov sh tu rk cb rlo rhi rl rg RES.1 kn RES.2.1 RES.2.2.1 RES.2.2.2) := by
  intro sz
  refine ct_entry (cc := cX6_follow) (maxL := 4) (ret := none) (own := RX6) (by decide) rfl rfl (Nat.le_of_ble_eq_true rfl) (ll := [(0, .ref (q 26)), (1, .int x1), (2, .int x2)]) rfl ?_
  intro p e s m args below meth c hsz C0 _ hP hD ls hl
  have C1 := C0
  obtain ⟨hx, hb, hr, hml, hown, hts, hlocks, hN, hK, hA⟩ := C1
  have hS : va_S (va_A (wC q cI cJ cZ nr wd sg lw hg fr to sn pl kd tg sa sb bn mt pa ob tb fo rv ro tk ov sh tu rk cb rlo rhi rl rg tf kn tl th tv) sz) s.heap s.heap [] := va_S.rf
  generalize va_A (wC q cI cJ cZ nr wd sg lw hg fr to sn pl kd tg sa sb bn mt pa ob tb fo rv ro tk ov sh tu rk cb rlo rhi rl rg tf kn tl th tv) sz = A at C0 hD hA hS ⊢
  show W p l e rmX6_follow s m args below meth c s.heap [] 0 0 (QV below args s A (dC, dI) (ty3 cI cJ cZ) (wC q cI cJ cZ nr wd sg lw hg fr to sn pl kd tg sa sb bn mt pa ob tb fo rv ro tk ov sh tu rk cb rlo rhi rl rg RES.1 kn RES.2.1 RES.2.2.1 RES.2.2.2)) (F0 m 0 ls [])
  unfold mX6_follow at hres
  refine lv_aload_n hx hb dX6_follow_0 rfl (lv_at hl 0 rfl) ?_
  refine va_get (D := (dC, dI)) (ci := 6) (v := .ref (q 29)) (C := RX6) (T := TX6) (N := 7) hx hb hts hwX6_follow_RX6 hown hK hP 26 rfl rfl 4 (by decide) (hts _ mwX6_follow_0) (fun _ h9 => h9) rfl dX6_follow_1 ?_
  refine lv_lconst (v := (0 : Int64)) hx hb dX6_follow_4 (by decide) ?_
  refine call_V C0 (run_S C0 (rest := []) (kflL l (dC, dI) (ty3 cI cJ cZ) _ 29 (q 29) cJ 6 tv (0 : Int64) rfl rfl (by decide) _) (va_cwS 2 hts gX6_follow_J7_fill_d0a16 rfl rfl rfl (by decide +kernel) ⟨by decide, by decide⟩) hP hD rfl hl.1 rfl (Nat.le_of_ble_eq_true rfl) dX6_follow_5) hD hS (fun H locs hP hD hS => ?_)
  have hP : va_P (dC, dI) vwCl (wC q cI cJ cZ nr wd sg lw hg fr to sn pl kd tg sa sb bn mt pa ob tb fo rv ro tk ov sh tu rk cb rlo rhi rl rg tf kn tl th (flL 6 (0 : Int64) tv)) H := hP
  have hD : va_D A (wC q cI cJ cZ nr wd sg lw hg fr to sn pl kd tg sa sb bn mt pa ob tb fo rv ro tk ov sh tu rk cb rlo rhi rl rg tf kn tl th (flL 6 (0 : Int64) tv)) := hD
  refine lv_aload_n hx hb dX6_follow_8 rfl (lv_at hl 0 rfl) ?_
  refine lv_iconst (v := (0 : Int32)) hx hb dX6_follow_9 (by decide) ?_
  refine lv_iload_n hx hb dX6_follow_10 rfl (lv_at hl 1 rfl) ?_
  refine lv_i2l (v := (x1).toInt64) hx hb dX6_follow_11 rfl ?_
  obtain ⟨u2, hu2, hres⟩ := mi_b hres
  refine call_V C0 (run_V C0 (rest := []) (kX6_give l dC dI q cI cJ cZ nr wd sg lw hg fr to sn pl kd tg sa sb bn mt pa ob tb fo rv ro tk ov sh tu rk cb rlo rhi rl rg tf kn tl th (flL 6 (0 : Int64) tv)  (0 : Int32) ((x1).toInt64) u2 hu2 _) (cwV 2 hts gX6_follow_X6_give rfl rfl rfl (by decide +kernel) ⟨by decide, by decide⟩) hP hD (ci := 6) (q0 := 26) rfl rfl rfl hl.1 rfl (Nat.le_of_ble_eq_true rfl) dX6_follow_12) hD hS (fun H locs hP hD hS => ?_)
  refine lv_aload_n hx hb dX6_follow_15 rfl (lv_at hl 0 rfl) ?_
  refine lv_iconst (v := (1 : Int32)) hx hb dX6_follow_16 (by decide) ?_
  refine lv_iload_n hx hb dX6_follow_17 rfl (lv_at hl 2 rfl) ?_
  refine lv_i2l (v := (x2).toInt64) hx hb dX6_follow_18 rfl ?_
  obtain ⟨u3, hu3, hres⟩ := mi_b hres
  refine call_V C0 (run_V C0 (rest := []) (kX6_give l dC dI q cI cJ cZ nr wd sg lw hg fr to sn pl kd tg sa sb bn mt pa ob tb fo rv ro tk ov sh tu rk cb rlo rhi rl rg u2.1 kn u2.2.1 u2.2.2.1 u2.2.2.2  (1 : Int32) ((x2).toInt64) u3 hu3 _) (cwV 2 hts gX6_follow_X6_give rfl rfl rfl (by decide +kernel) ⟨by decide, by decide⟩) hP hD (ci := 6) (q0 := 26) rfl rfl rfl hl.1 rfl (Nat.le_of_ble_eq_true rfl) dX6_follow_19) hD hS (fun H locs hP hD hS => ?_)
  refine lv_iconst (v := (0 : Int32)) hx hb dX6_follow_22 (by decide) ?_
  refine lv_istore_n (lv' := [(3, .int (0 : Int32)), (0, .ref (q 26)), (1, .int x1), (2, .int x2)]) hx hb dX6_follow_23 rfl hl (by decide) rfl (fun ls hl => ?_)
  exact zX6_follow_L24 C0  FU u3.1 u3.2.1 u3.2.2.1 u3.2.2.2 (0 : Int32) _ _ ls hP hD hS (lv_sub hl [1, 0] rfl) hres
/-! ### SumsOver$Trues.learn()V -/
set_option maxRecDepth 20000 in
theorem hwX6_learn_RX6 : ∀ w ∈ u_ws RX6 TX6 7, w ∈ wsX6_learn := by decide +kernel
theorem mwX6_learn_0 : (.fieldLink RX6 29 "SumsOver$Trues" "known" "Z" : Cond) ∈ wsX6_learn := by decide +kernel
theorem mwX6_learn_1 : (.fieldLink RX6 33 "SumsOver$Trues" "tooFar" "Z" : Cond) ∈ wsX6_learn := by decide +kernel
theorem mwX6_learn_2 : (.fieldLink RX6 9 "SumsOver$Trues" "least" "[J" : Cond) ∈ wsX6_learn := by decide +kernel
theorem mwX6_learn_3 : (.fieldLink RX6 15 "SumsOver$Trues" "greatest" "[J" : Cond) ∈ wsX6_learn := by decide +kernel
theorem mwX6_learn_4 : (.fieldLink RX6 25 "SumsOver$Trues" "inputs" "LSumsOver$Inputs;" : Cond) ∈ wsX6_learn := by decide +kernel
set_option maxRecDepth 20000 in
theorem hwX6_learn_RX0 : ∀ w ∈ u_ws RX0 TX0 2, w ∈ wsX6_learn := by decide +kernel
theorem mwX6_learn_5 : (.fieldLink RX6 42 "SumsOver$Inputs" "from" "[I" : Cond) ∈ wsX6_learn := by decide +kernel
theorem mwX6_learn_6 : (.fieldLink RX6 48 "SumsOver$Inputs" "to" "[I" : Cond) ∈ wsX6_learn := by decide +kernel
def rmX6_learn : Room := { frames := 4, cells := 0, slots := 0, locals := 96 }
def iX6_learn_L74 (p : Program) (l : Launch) (e : Env) (s : State) (m : MethodId) (args : Array Value) (below : List Frame) (meth : Method) (c : Code) (A : Nat → Prop) (dC : Nat → ClassId) (dI : Nat → Nat → Nat) (q : Nat → Nat) (cI cJ cZ : ClassId) (nr : Int32) (wd : Nat → Int32) (sg : Nat → Int32) (lw : Nat → Int64) (hg : Nat → Int64) (fr : Nat → Int32) (to : Nat → Int32) (sn : Int32) (pl : Int32) (kd : Nat → Int32) (tg : Nat → Int32) (sa : Nat → Int32) (sb : Nat → Int32) (bn : Nat → Int32) (mt : Nat → Int32) (pa : Nat → Int32) (ob : Int32) (tb : Int32) (fo : Int32) (rv : Nat → Int64) (ro : Int32) (tk : Int32) (ov : Nat → Int32) (sh : Nat → Int32) (tu : Nat → Int32) (rk : Int32) (cb : Int32) (rlo : Int64) (rhi : Int64) (rl : Nat → Int64) (rg : Nat → Int64)  (RES : (Int32) × (Int32) × (Nat → Int64) × (Nat → Int64) × (Nat → Int64)) (k : (Int32) → (Int32) → (Nat → Int64) → (Nat → Int64) → (Nat → Int64) → (Int32) → (Int32) → Option ((Int32) × (Int32) × (Nat → Int64) × (Nat → Int64) × (Nat → Int64))) : Prop := ∀ (tf : Int32) (kn : Int32) (tl : Nat → Int64) (th : Nat → Int64) (tv : Nat → Int64) (x1 : Int32) (x2 : Int32) (H : Heap) (locs : List Loc) (ls : Array Slot), va_P (dC, dI) vwCl (wC q cI cJ cZ nr wd sg lw hg fr to sn pl kd tg sa sb bn mt pa ob tb fo rv ro tk ov sh tu rk cb rlo rhi rl rg tf kn tl th tv) H → va_D A (wC q cI cJ cZ nr wd sg lw hg fr to sn pl kd tg sa sb bn mt pa ob tb fo rv ro tk ov sh tu rk cb rlo rhi rl rg tf kn tl th tv) → va_S A s.heap H locs → lv_has ls 3 [(0, .ref (q 26)), (1, .int x1), (2, .int x2)] → k tf kn tl th tv x1 x2 = some RES → W p l e rmX6_learn s m args below meth c H locs 0 0 (QV below args s A (dC, dI) (ty3 cI cJ cZ) (wC q cI cJ cZ nr wd sg lw hg fr to sn pl kd tg sa sb bn mt pa ob tb fo rv ro tk ov sh tu rk cb rlo rhi rl rg RES.1 RES.2.1 RES.2.2.1 RES.2.2.2.1 RES.2.2.2.2)) (F0 m 74 ls [])
def iX6_learn_L44 (p : Program) (l : Launch) (e : Env) (s : State) (m : MethodId) (args : Array Value) (below : List Frame) (meth : Method) (c : Code) (A : Nat → Prop) (dC : Nat → ClassId) (dI : Nat → Nat → Nat) (q : Nat → Nat) (cI cJ cZ : ClassId) (nr : Int32) (wd : Nat → Int32) (sg : Nat → Int32) (lw : Nat → Int64) (hg : Nat → Int64) (fr : Nat → Int32) (to : Nat → Int32) (sn : Int32) (pl : Int32) (kd : Nat → Int32) (tg : Nat → Int32) (sa : Nat → Int32) (sb : Nat → Int32) (bn : Nat → Int32) (mt : Nat → Int32) (pa : Nat → Int32) (ob : Int32) (tb : Int32) (fo : Int32) (rv : Nat → Int64) (ro : Int32) (tk : Int32) (ov : Nat → Int32) (sh : Nat → Int32) (tu : Nat → Int32) (rk : Int32) (cb : Int32) (rlo : Int64) (rhi : Int64) (rl : Nat → Int64) (rg : Nat → Int64)  (RES : (Int32) × (Int32) × (Nat → Int64) × (Nat → Int64) × (Nat → Int64)) (k : (Int32) → (Int32) → (Nat → Int64) → (Nat → Int64) → (Nat → Int64) → (Int32) → Option ((Int32) × (Int32) × (Nat → Int64) × (Nat → Int64) × (Nat → Int64))) : Prop := ∀ (tf : Int32) (kn : Int32) (tl : Nat → Int64) (th : Nat → Int64) (tv : Nat → Int64) (x1 : Int32) (H : Heap) (locs : List Loc) (ls : Array Slot), va_P (dC, dI) vwCl (wC q cI cJ cZ nr wd sg lw hg fr to sn pl kd tg sa sb bn mt pa ob tb fo rv ro tk ov sh tu rk cb rlo rhi rl rg tf kn tl th tv) H → va_D A (wC q cI cJ cZ nr wd sg lw hg fr to sn pl kd tg sa sb bn mt pa ob tb fo rv ro tk ov sh tu rk cb rlo rhi rl rg tf kn tl th tv) → va_S A s.heap H locs → lv_has ls 3 [(0, .ref (q 26)), (1, .int x1)] → k tf kn tl th tv x1 = some RES → W p l e rmX6_learn s m args below meth c H locs 0 0 (QV below args s A (dC, dI) (ty3 cI cJ cZ) (wC q cI cJ cZ nr wd sg lw hg fr to sn pl kd tg sa sb bn mt pa ob tb fo rv ro tk ov sh tu rk cb rlo rhi rl rg RES.1 RES.2.1 RES.2.2.1 RES.2.2.2.1 RES.2.2.2.2)) (F0 m 44 ls [])
set_option maxHeartbeats 4000000 in
set_option maxRecDepth 100000 in
theorem zX6_learn_L74 {p : Program} {l : Launch} {e : Env} {s : State} {m : MethodId} {args : Array Value} {below : List Frame} {meth : Method} {c : Code} {A : Nat → Prop} {dC : Nat → ClassId} {dI : Nat → Nat → Nat} {q : Nat → Nat} {cI cJ cZ : ClassId} {nr : Int32} {wd : Nat → Int32} {sg : Nat → Int32} {lw : Nat → Int64} {hg : Nat → Int64} {fr : Nat → Int32} {to : Nat → Int32} {sn : Int32} {pl : Int32} {kd : Nat → Int32} {tg : Nat → Int32} {sa : Nat → Int32} {sb : Nat → Int32} {bn : Nat → Int32} {mt : Nat → Int32} {pa : Nat → Int32} {ob : Int32} {tb : Int32} {fo : Int32} {rv : Nat → Int64} {ro : Int32} {tk : Int32} {ov : Nat → Int32} {sh : Nat → Int32} {tu : Nat → Int32} {rk : Int32} {cb : Int32} {rlo : Int64} {rhi : Int64} {rl : Nat → Int64} {rg : Nat → Int64}  (C0 : Cx p s m args meth c cX6_learn 3 none RX6 wsX6_learn A (dC, dI) (ty3 cI cJ cZ)) {RES : (Int32) × (Int32) × (Nat → Int64) × (Nat → Int64) × (Nat → Int64)} {k44 : (Int32) → (Int32) → (Nat → Int64) → (Nat → Int64) → (Nat → Int64) → (Int32) → Option ((Int32) × (Int32) × (Nat → Int64) × (Nat → Int64) × (Nat → Int64))} (hk44 : iX6_learn_L44 p l e s m args below meth c A dC dI q cI cJ cZ nr wd sg lw hg fr to sn pl kd tg sa sb bn mt pa ob tb fo rv ro tk ov sh tu rk cb rlo rhi rl rg RES k44) : ∀ n : Nat, iX6_learn_L74 p l e s m args below meth c A dC dI q cI cJ cZ nr wd sg lw hg fr to sn pl kd tg sa sb bn mt pa ob tb fo rv ro tk ov sh tu rk cb rlo rhi rl rg RES (mX6_learn_L74 fr to pl kd tg sa sb bn pa k44 n) := by
  have C1 := C0
  obtain ⟨hx, hb, hr, hml, hown, hts, hlocks, hN, hK, hA⟩ := C1
  intro n
  induction n with
  | zero =>
    intro tf kn tl th tv x1 x2 H locs ls hP hD hS hl hres
    exact mi_0 hres
  | succ n ih =>
    intro tf kn tl th tv x1 x2 H locs ls hP hD hS hl hres
    rw [mX6_learn_L74] at hres
    refine lv_iload_n hx hb dX6_learn_74 rfl (lv_at hl 2 rfl) ?_
    refine lv_aload_n hx hb dX6_learn_75 rfl (lv_at hl 0 rfl) ?_
    refine va_get (D := (dC, dI)) (ci := 6) (v := .ref (q 6)) (C := RX6) (T := TX6) (N := 7) hx hb hts hwX6_learn_RX6 hown hK hP 26 rfl rfl 6 (by decide) (hts _ mwX6_learn_4) (fun _ h9 => h9) rfl dX6_learn_76 ?_
    refine va_get (D := (dC, dI)) (ci := 0) (v := .ref (q 8)) (C := RX0) (T := TX0) (N := 2) hx hb hts hwX6_learn_RX0 hown hK hP 6 rfl rfl 1 (by decide) (hts _ mwX6_learn_6) (fun _ h9 => h9) rfl dX6_learn_79 ?_
    refine lv_iconst (v := (1 : Int32)) hx hb dX6_learn_82 (by decide) ?_
    refine va_iald (D := (dC, dI)) (cl := vwCl) hx hb hK hP 8 0 rfl rfl (show ¬ ((1 : Int32) < 0 ∨ 2 ≤ Int32.toNatClampNeg (1 : Int32)) by decide) dX6_learn_83 ?_
    refine lv_icmp_gt (tgt := 106) hx hb dX6_learn_84 (by decide) (fun c_6 => ?_) (fun c_6 => ?_)
    · replace hres := mi_p c_6 hres
      refine lv_iinc (v := x1 + (1 : Int32)) (lv' := [(1, .int (x1 + (1 : Int32))), (0, .ref (q 26)), (2, .int x2)]) hx hb dX6_learn_106 hl (k := 1) rfl rfl (by decide) rfl (fun ls hl => ?_)
      refine lv_goto (tgt := 44) hx hb dX6_learn_109 (by decide) ?_
      exact hk44 tf kn tl th tv (x1 + (1 : Int32)) _ _ ls hP hD hS (lv_sub hl [1, 0] rfl) hres
    · replace hres := mi_n c_6 hres
      refine lv_aload_n hx hb dX6_learn_87 rfl (lv_at hl 0 rfl) ?_
      refine va_get (D := (dC, dI)) (ci := 6) (v := .int tf) (C := RX6) (T := TX6) (N := 7) hx hb hts hwX6_learn_RX6 hown hK hP 26 rfl rfl 2 (by decide) (hts _ mwX6_learn_1) (fun _ h9 => h9) rfl dX6_learn_88 ?_
      refine lv_if_ne (tgt := 106) hx hb dX6_learn_91 (by decide) (fun c_7 => ?_) (fun c_7 => ?_)
      · replace hres := mi_n c_7 hres
        refine lv_iinc (v := x1 + (1 : Int32)) (lv' := [(1, .int (x1 + (1 : Int32))), (0, .ref (q 26)), (2, .int x2)]) hx hb dX6_learn_106 hl (k := 1) rfl rfl (by decide) rfl (fun ls hl => ?_)
        refine lv_goto (tgt := 44) hx hb dX6_learn_109 (by decide) ?_
        exact hk44 tf kn tl th tv (x1 + (1 : Int32)) _ _ ls hP hD hS (lv_sub hl [1, 0] rfl) hres
      · replace hres := mi_p c_7 hres
        refine lv_aload_n hx hb dX6_learn_94 rfl (lv_at hl 0 rfl) ?_
        refine lv_iload_n hx hb dX6_learn_95 rfl (lv_at hl 1 rfl) ?_
        refine lv_iload_n hx hb dX6_learn_96 rfl (lv_at hl 2 rfl) ?_
        obtain ⟨u8, hu8, hres⟩ := mi_b hres
        refine call_V C0 (run_V C0 (rest := []) (kX6_follow l dC dI q cI cJ cZ nr wd sg lw hg fr to sn pl kd tg sa sb bn mt pa ob tb fo rv ro tk ov sh tu rk cb rlo rhi rl rg tf kn tl th tv  x1 x2 u8 hu8 _) (cwV 2 hts gX6_learn_X6_follow rfl rfl rfl (by decide +kernel) ⟨by decide, by decide⟩) hP hD (ci := 6) (q0 := 26) rfl rfl rfl hl.1 rfl (Nat.le_of_ble_eq_true rfl) dX6_learn_97) hD hS (fun H locs hP hD hS => ?_)
        refine lv_iinc (v := x2 + (1 : Int32)) (lv' := [(2, .int (x2 + (1 : Int32))), (0, .ref (q 26)), (1, .int x1)]) hx hb dX6_learn_100 hl (k := 2) rfl rfl (by decide) rfl (fun ls hl => ?_)
        refine lv_goto (tgt := 74) hx hb dX6_learn_103 (by decide) ?_
        exact ih u8.1 kn u8.2.1 u8.2.2.1 u8.2.2.2 x1 (x2 + (1 : Int32)) _ _ ls hP hD hS (lv_sub hl [1, 2, 0] rfl) hres
set_option maxHeartbeats 4000000 in
set_option maxRecDepth 100000 in
theorem zX6_learn_L44 {p : Program} {l : Launch} {e : Env} {s : State} {m : MethodId} {args : Array Value} {below : List Frame} {meth : Method} {c : Code} {A : Nat → Prop} {dC : Nat → ClassId} {dI : Nat → Nat → Nat} {q : Nat → Nat} {cI cJ cZ : ClassId} {nr : Int32} {wd : Nat → Int32} {sg : Nat → Int32} {lw : Nat → Int64} {hg : Nat → Int64} {fr : Nat → Int32} {to : Nat → Int32} {sn : Int32} {pl : Int32} {kd : Nat → Int32} {tg : Nat → Int32} {sa : Nat → Int32} {sb : Nat → Int32} {bn : Nat → Int32} {mt : Nat → Int32} {pa : Nat → Int32} {ob : Int32} {tb : Int32} {fo : Int32} {rv : Nat → Int64} {ro : Int32} {tk : Int32} {ov : Nat → Int32} {sh : Nat → Int32} {tu : Nat → Int32} {rk : Int32} {cb : Int32} {rlo : Int64} {rhi : Int64} {rl : Nat → Int64} {rg : Nat → Int64}  (C0 : Cx p s m args meth c cX6_learn 3 none RX6 wsX6_learn A (dC, dI) (ty3 cI cJ cZ)) {RES : (Int32) × (Int32) × (Nat → Int64) × (Nat → Int64) × (Nat → Int64)}  : ∀ n : Nat, iX6_learn_L44 p l e s m args below meth c A dC dI q cI cJ cZ nr wd sg lw hg fr to sn pl kd tg sa sb bn mt pa ob tb fo rv ro tk ov sh tu rk cb rlo rhi rl rg RES (mX6_learn_L44 fr to pl kd tg sa sb bn pa n) := by
  have C1 := C0
  obtain ⟨hx, hb, hr, hml, hown, hts, hlocks, hN, hK, hA⟩ := C1
  intro n
  induction n with
  | zero =>
    intro tf kn tl th tv x1 H locs ls hP hD hS hl hres
    exact mi_0 hres
  | succ n ih =>
    intro tf kn tl th tv x1 H locs ls hP hD hS hl hres
    rw [mX6_learn_L44] at hres
    refine lv_iload_n hx hb dX6_learn_44 rfl (lv_at hl 1 rfl) ?_
    refine lv_aload_n hx hb dX6_learn_45 rfl (lv_at hl 0 rfl) ?_
    refine va_get (D := (dC, dI)) (ci := 6) (v := .ref (q 6)) (C := RX6) (T := TX6) (N := 7) hx hb hts hwX6_learn_RX6 hown hK hP 26 rfl rfl 6 (by decide) (hts _ mwX6_learn_4) (fun _ h9 => h9) rfl dX6_learn_46 ?_
    refine va_get (D := (dC, dI)) (ci := 0) (v := .ref (q 8)) (C := RX0) (T := TX0) (N := 2) hx hb hts hwX6_learn_RX0 hown hK hP 6 rfl rfl 1 (by decide) (hts _ mwX6_learn_6) (fun _ h9 => h9) rfl dX6_learn_49 ?_
    refine lv_iconst (v := (0 : Int32)) hx hb dX6_learn_52 (by decide) ?_
    refine va_iald (D := (dC, dI)) (cl := vwCl) hx hb hK hP 8 0 rfl rfl (show ¬ ((0 : Int32) < 0 ∨ 2 ≤ Int32.toNatClampNeg (0 : Int32)) by decide) dX6_learn_53 ?_
    refine lv_icmp_gt (tgt := 112) hx hb dX6_learn_54 (by decide) (fun c_4 => ?_) (fun c_4 => ?_)
    · replace hres := mi_p c_4 hres
      obtain rfl := Option.some.inj hres
      exact ret_V C0 hP hD hS dX6_learn_112
    · replace hres := mi_n c_4 hres
      refine lv_aload_n hx hb dX6_learn_57 rfl (lv_at hl 0 rfl) ?_
      refine va_get (D := (dC, dI)) (ci := 6) (v := .int tf) (C := RX6) (T := TX6) (N := 7) hx hb hts hwX6_learn_RX6 hown hK hP 26 rfl rfl 2 (by decide) (hts _ mwX6_learn_1) (fun _ h9 => h9) rfl dX6_learn_58 ?_
      refine lv_if_ne (tgt := 112) hx hb dX6_learn_61 (by decide) (fun c_5 => ?_) (fun c_5 => ?_)
      · replace hres := mi_n c_5 hres
        obtain rfl := Option.some.inj hres
        exact ret_V C0 hP hD hS dX6_learn_112
      · replace hres := mi_p c_5 hres
        refine lv_aload_n hx hb dX6_learn_64 rfl (lv_at hl 0 rfl) ?_
        refine va_get (D := (dC, dI)) (ci := 6) (v := .ref (q 6)) (C := RX6) (T := TX6) (N := 7) hx hb hts hwX6_learn_RX6 hown hK hP 26 rfl rfl 6 (by decide) (hts _ mwX6_learn_4) (fun _ h9 => h9) rfl dX6_learn_65 ?_
        refine va_get (D := (dC, dI)) (ci := 0) (v := .ref (q 7)) (C := RX0) (T := TX0) (N := 2) hx hb hts hwX6_learn_RX0 hown hK hP 6 rfl rfl 0 (by decide) (hts _ mwX6_learn_5) (fun _ h9 => h9) rfl dX6_learn_68 ?_
        refine lv_iconst (v := (1 : Int32)) hx hb dX6_learn_71 (by decide) ?_
        refine va_iald (D := (dC, dI)) (cl := vwCl) hx hb hK hP 7 0 rfl rfl (show ¬ ((1 : Int32) < 0 ∨ 2 ≤ Int32.toNatClampNeg (1 : Int32)) by decide) dX6_learn_72 ?_
        refine lv_istore_n (lv' := [(2, .int (fr (Int32.toNatClampNeg (1 : Int32)))), (0, .ref (q 26)), (1, .int x1)]) hx hb dX6_learn_73 rfl hl (by decide) rfl (fun ls hl => ?_)
        exact zX6_learn_L74 C0 ih FU tf kn tl th tv x1 (fr (Int32.toNatClampNeg (1 : Int32))) _ _ ls hP hD hS (lv_sub hl [1, 2, 0] rfl) hres
set_option maxHeartbeats 4000000 in
set_option maxRecDepth 100000 in
theorem kX6_learn (l : Launch) (dC : Nat → ClassId) (dI : Nat → Nat → Nat) (q : Nat → Nat) (cI cJ cZ : ClassId) (nr : Int32) (wd : Nat → Int32) (sg : Nat → Int32) (lw : Nat → Int64) (hg : Nat → Int64) (fr : Nat → Int32) (to : Nat → Int32) (sn : Int32) (pl : Int32) (kd : Nat → Int32) (tg : Nat → Int32) (sa : Nat → Int32) (sb : Nat → Int32) (bn : Nat → Int32) (mt : Nat → Int32) (pa : Nat → Int32) (ob : Int32) (tb : Int32) (fo : Int32) (rv : Nat → Int64) (ro : Int32) (tk : Int32) (ov : Nat → Int32) (sh : Nat → Int32) (tu : Nat → Int32) (rk : Int32) (cb : Int32) (rlo : Int64) (rhi : Int64) (rl : Nat → Int64) (rg : Nat → Int64) (tf : Int32) (kn : Int32) (tl : Nat → Int64) (th : Nat → Int64) (tv : Nat → Int64)  (RES : (Int32) × (Int32) × (Nat → Int64) × (Nat → Int64) × (Nat → Int64)) (hres : mX6_learn fr to pl kd tg sa sb bn pa tf kn tl th tv = some RES) : CtV l yX6_learn wsX6_learn rmX6_learn (dC, dI) (ty3 cI cJ cZ) (wC q cI cJ cZ nr wd sg lw hg fr to sn pl kd tg sa sb bn mt pa ob tb fo rv ro tk ov sh tu rk cb rlo rhi rl rg tf kn tl th tv) [.ref (q 26)] (wC q cI cJ cZ nr wd sg lw hg fr to sn pl kd tg sa sb bn mt pa ob tb fo rv ro tk ov sh tu rk cb rlo rhi rl rg RES.1 RES.2.1 RES.2.2.1 RES.2.2.2.1 RES.2.2.2.2) := by
  intro sz
  refine ct_entry (cc := cX6_learn) (maxL := 3) (ret := none) (own := RX6) (by decide) rfl rfl (Nat.le_of_ble_eq_true rfl) (ll := [(0, .ref (q 26))]) rfl ?_
  intro p e s m args below meth c hsz C0 _ hP hD ls hl
  have C1 := C0
  obtain ⟨hx, hb, hr, hml, hown, hts, hlocks, hN, hK, hA⟩ := C1
  have hS : va_S (va_A (wC q cI cJ cZ nr wd sg lw hg fr to sn pl kd tg sa sb bn mt pa ob tb fo rv ro tk ov sh tu rk cb rlo rhi rl rg tf kn tl th tv) sz) s.heap s.heap [] := va_S.rf
  generalize va_A (wC q cI cJ cZ nr wd sg lw hg fr to sn pl kd tg sa sb bn mt pa ob tb fo rv ro tk ov sh tu rk cb rlo rhi rl rg tf kn tl th tv) sz = A at C0 hD hA hS ⊢
  show W p l e rmX6_learn s m args below meth c s.heap [] 0 0 (QV below args s A (dC, dI) (ty3 cI cJ cZ) (wC q cI cJ cZ nr wd sg lw hg fr to sn pl kd tg sa sb bn mt pa ob tb fo rv ro tk ov sh tu rk cb rlo rhi rl rg RES.1 RES.2.1 RES.2.2.1 RES.2.2.2.1 RES.2.2.2.2)) (F0 m 0 ls [])
  unfold mX6_learn at hres
  refine lv_aload_n hx hb dX6_learn_0 rfl (lv_at hl 0 rfl) ?_
  refine va_get (D := (dC, dI)) (ci := 6) (v := .int kn) (C := RX6) (T := TX6) (N := 7) hx hb hts hwX6_learn_RX6 hown hK hP 26 rfl rfl 3 (by decide) (hts _ mwX6_learn_0) (fun _ h9 => h9) rfl dX6_learn_1 ?_
  refine lv_if_eq (tgt := 8) hx hb dX6_learn_4 (by decide) (fun c_1 => ?_) (fun c_1 => ?_)
  · replace hres := mi_p c_1 hres
    refine lv_aload_n hx hb dX6_learn_8 rfl (lv_at hl 0 rfl) ?_
    refine lv_iconst (v := (1 : Int32)) hx hb dX6_learn_9 (by decide) ?_
    refine va_put (D := (dC, dI)) (ci := 6) (v := .int (1 : Int32)) (ty := .boolean) (C := RX6) (T := TX6) (N := 7) hx hb hts hwX6_learn_RX6 tyX6 tyX6_ok nmX6 hown hK hP hD hS 26 rfl rfl 3 (by decide) (hts _ mwX6_learn_0) (fun _ h9 => h9) rfl (by decide +kernel) rfl rfl (Nat.le_of_ble_eq_true rfl) dX6_learn_10 (fun H locs hP hD hS => ?_)
    have hP : va_P (dC, dI) vwCl (wC q cI cJ cZ nr wd sg lw hg fr to sn pl kd tg sa sb bn mt pa ob tb fo rv ro tk ov sh tu rk cb rlo rhi rl rg tf (1 : Int32) tl th tv) H := hP
    have hD : va_D A (wC q cI cJ cZ nr wd sg lw hg fr to sn pl kd tg sa sb bn mt pa ob tb fo rv ro tk ov sh tu rk cb rlo rhi rl rg tf (1 : Int32) tl th tv) := hD
    refine lv_aload_n hx hb dX6_learn_13 rfl (lv_at hl 0 rfl) ?_
    refine lv_iconst (v := (0 : Int32)) hx hb dX6_learn_14 (by decide) ?_
    refine va_put (D := (dC, dI)) (ci := 6) (v := .int (0 : Int32)) (ty := .boolean) (C := RX6) (T := TX6) (N := 7) hx hb hts hwX6_learn_RX6 tyX6 tyX6_ok nmX6 hown hK hP hD hS 26 rfl rfl 2 (by decide) (hts _ mwX6_learn_1) (fun _ h9 => h9) rfl (by decide +kernel) rfl rfl (Nat.le_of_ble_eq_true rfl) dX6_learn_15 (fun H locs hP hD hS => ?_)
    have hP : va_P (dC, dI) vwCl (wC q cI cJ cZ nr wd sg lw hg fr to sn pl kd tg sa sb bn mt pa ob tb fo rv ro tk ov sh tu rk cb rlo rhi rl rg (0 : Int32) (1 : Int32) tl th tv) H := hP
    have hD : va_D A (wC q cI cJ cZ nr wd sg lw hg fr to sn pl kd tg sa sb bn mt pa ob tb fo rv ro tk ov sh tu rk cb rlo rhi rl rg (0 : Int32) (1 : Int32) tl th tv) := hD
    refine lv_aload_n hx hb dX6_learn_18 rfl (lv_at hl 0 rfl) ?_
    refine va_get (D := (dC, dI)) (ci := 6) (v := .ref (q 27)) (C := RX6) (T := TX6) (N := 7) hx hb hts hwX6_learn_RX6 hown hK hP 26 rfl rfl 0 (by decide) (hts _ mwX6_learn_2) (fun _ h9 => h9) rfl dX6_learn_19 ?_
    refine lv_lconst (v := (0 : Int64)) hx hb dX6_learn_22 (by decide) ?_
    refine call_V C0 (run_S C0 (rest := []) (kflL l (dC, dI) (ty3 cI cJ cZ) _ 27 (q 27) cJ 6 tl (0 : Int64) rfl rfl (by decide) _) (va_cwS 2 hts gX6_learn_J7_fill_d0a16 rfl rfl rfl (by decide +kernel) ⟨by decide, by decide⟩) hP hD rfl hl.1 rfl (Nat.le_of_ble_eq_true rfl) dX6_learn_23) hD hS (fun H locs hP hD hS => ?_)
    have hP : va_P (dC, dI) vwCl (wC q cI cJ cZ nr wd sg lw hg fr to sn pl kd tg sa sb bn mt pa ob tb fo rv ro tk ov sh tu rk cb rlo rhi rl rg (0 : Int32) (1 : Int32) (flL 6 (0 : Int64) tl) th tv) H := hP
    have hD : va_D A (wC q cI cJ cZ nr wd sg lw hg fr to sn pl kd tg sa sb bn mt pa ob tb fo rv ro tk ov sh tu rk cb rlo rhi rl rg (0 : Int32) (1 : Int32) (flL 6 (0 : Int64) tl) th tv) := hD
    refine lv_aload_n hx hb dX6_learn_26 rfl (lv_at hl 0 rfl) ?_
    refine va_get (D := (dC, dI)) (ci := 6) (v := .ref (q 28)) (C := RX6) (T := TX6) (N := 7) hx hb hts hwX6_learn_RX6 hown hK hP 26 rfl rfl 1 (by decide) (hts _ mwX6_learn_3) (fun _ h9 => h9) rfl dX6_learn_27 ?_
    refine lv_lconst (v := (0 : Int64)) hx hb dX6_learn_30 (by decide) ?_
    refine call_V C0 (run_S C0 (rest := []) (kflL l (dC, dI) (ty3 cI cJ cZ) _ 28 (q 28) cJ 6 th (0 : Int64) rfl rfl (by decide) _) (va_cwS 2 hts gX6_learn_J7_fill_d0a16 rfl rfl rfl (by decide +kernel) ⟨by decide, by decide⟩) hP hD rfl hl.1 rfl (Nat.le_of_ble_eq_true rfl) dX6_learn_31) hD hS (fun H locs hP hD hS => ?_)
    have hP : va_P (dC, dI) vwCl (wC q cI cJ cZ nr wd sg lw hg fr to sn pl kd tg sa sb bn mt pa ob tb fo rv ro tk ov sh tu rk cb rlo rhi rl rg (0 : Int32) (1 : Int32) (flL 6 (0 : Int64) tl) (flL 6 (0 : Int64) th) tv) H := hP
    have hD : va_D A (wC q cI cJ cZ nr wd sg lw hg fr to sn pl kd tg sa sb bn mt pa ob tb fo rv ro tk ov sh tu rk cb rlo rhi rl rg (0 : Int32) (1 : Int32) (flL 6 (0 : Int64) tl) (flL 6 (0 : Int64) th) tv) := hD
    refine lv_aload_n hx hb dX6_learn_34 rfl (lv_at hl 0 rfl) ?_
    refine va_get (D := (dC, dI)) (ci := 6) (v := .ref (q 6)) (C := RX6) (T := TX6) (N := 7) hx hb hts hwX6_learn_RX6 hown hK hP 26 rfl rfl 6 (by decide) (hts _ mwX6_learn_4) (fun _ h9 => h9) rfl dX6_learn_35 ?_
    refine va_get (D := (dC, dI)) (ci := 0) (v := .ref (q 7)) (C := RX0) (T := TX0) (N := 2) hx hb hts hwX6_learn_RX0 hown hK hP 6 rfl rfl 0 (by decide) (hts _ mwX6_learn_5) (fun _ h9 => h9) rfl dX6_learn_38 ?_
    refine lv_iconst (v := (0 : Int32)) hx hb dX6_learn_41 (by decide) ?_
    refine va_iald (D := (dC, dI)) (cl := vwCl) hx hb hK hP 7 0 rfl rfl (show ¬ ((0 : Int32) < 0 ∨ 2 ≤ Int32.toNatClampNeg (0 : Int32)) by decide) dX6_learn_42 ?_
    refine lv_istore_n (lv' := [(1, .int (fr (Int32.toNatClampNeg (0 : Int32)))), (0, .ref (q 26))]) hx hb dX6_learn_43 rfl hl (by decide) rfl (fun ls hl => ?_)
    exact zX6_learn_L44 C0  FU (0 : Int32) (1 : Int32) (flL 6 (0 : Int64) tl) (flL 6 (0 : Int64) th) tv (fr (Int32.toNatClampNeg (0 : Int32))) _ _ ls hP hD hS (lv_sub hl [1, 0] rfl) hres
  · replace hres := mi_n c_1 hres
    obtain rfl := Option.some.inj hres
    exact ret_V C0 hP hD hS dX6_learn_7
/-! ### SumsOver.forget()V -/
set_option maxRecDepth 20000 in
theorem hwX7_forget_RX7 : ∀ w ∈ u_ws RX7 TX7 7, w ∈ wsX7_forget := by decide +kernel
theorem mwX7_forget_0 : (.fieldLink RX7 44 "SumsOver" "tally" "LSumsOver$Tally;" : Cond) ∈ wsX7_forget := by decide +kernel
set_option maxRecDepth 20000 in
theorem hwX7_forget_RX5 : ∀ w ∈ u_ws RX5 TX5 7, w ∈ wsX7_forget := by decide +kernel
theorem mwX7_forget_1 : (.fieldLink RX7 215 "SumsOver$Tally" "known" "Z" : Cond) ∈ wsX7_forget := by decide +kernel
theorem mwX7_forget_2 : (.fieldLink RX7 53 "SumsOver" "reach" "LSumsOver$Reach;" : Cond) ∈ wsX7_forget := by decide +kernel
set_option maxRecDepth 20000 in
theorem hwX7_forget_RX2 : ∀ w ∈ u_ws RX2 TX2 9, w ∈ wsX7_forget := by decide +kernel
theorem mwX7_forget_3 : (.fieldLink RX7 218 "SumsOver$Reach" "known" "Z" : Cond) ∈ wsX7_forget := by decide +kernel
theorem mwX7_forget_4 : (.fieldLink RX7 62 "SumsOver" "trues" "LSumsOver$Trues;" : Cond) ∈ wsX7_forget := by decide +kernel
set_option maxRecDepth 20000 in
theorem hwX7_forget_RX6 : ∀ w ∈ u_ws RX6 TX6 7, w ∈ wsX7_forget := by decide +kernel
theorem mwX7_forget_5 : (.fieldLink RX7 219 "SumsOver$Trues" "known" "Z" : Cond) ∈ wsX7_forget := by decide +kernel
def rmX7_forget : Room := { frames := 0, cells := 0, slots := 0, locals := 0 }
set_option maxHeartbeats 4000000 in
set_option maxRecDepth 100000 in
theorem kX7_forget (l : Launch) (dC : Nat → ClassId) (dI : Nat → Nat → Nat) (q : Nat → Nat) (cI cJ cZ : ClassId) (nr : Int32) (wd : Nat → Int32) (sg : Nat → Int32) (lw : Nat → Int64) (hg : Nat → Int64) (fr : Nat → Int32) (to : Nat → Int32) (sn : Int32) (pl : Int32) (kd : Nat → Int32) (tg : Nat → Int32) (sa : Nat → Int32) (sb : Nat → Int32) (bn : Nat → Int32) (mt : Nat → Int32) (pa : Nat → Int32) (ob : Int32) (tb : Int32) (fo : Int32) (rv : Nat → Int64) (ro : Int32) (tk : Int32) (ov : Nat → Int32) (sh : Nat → Int32) (tu : Nat → Int32) (rk : Int32) (cb : Int32) (rlo : Int64) (rhi : Int64) (rl : Nat → Int64) (rg : Nat → Int64) (tf : Int32) (kn : Int32) (tl : Nat → Int64) (th : Nat → Int64) (tv : Nat → Int64)  (RES : (Int32) × (Int32) × (Int32)) (hres : mX7_forget tk rk kn = some RES) : CtV l yX7_forget wsX7_forget rmX7_forget (dC, dI) (ty3 cI cJ cZ) (wC q cI cJ cZ nr wd sg lw hg fr to sn pl kd tg sa sb bn mt pa ob tb fo rv ro tk ov sh tu rk cb rlo rhi rl rg tf kn tl th tv) [.ref (q 0)] (wC q cI cJ cZ nr wd sg lw hg fr to sn pl kd tg sa sb bn mt pa ob tb fo rv ro RES.1 ov sh tu RES.2.1 cb rlo rhi rl rg tf RES.2.2 tl th tv) := by
  intro sz
  refine ct_entry (cc := cX7_forget) (maxL := 1) (ret := none) (own := RX7) (by decide) rfl rfl (Nat.le_of_ble_eq_true rfl) (ll := [(0, .ref (q 0))]) rfl ?_
  intro p e s m args below meth c hsz C0 _ hP hD ls hl
  have C1 := C0
  obtain ⟨hx, hb, hr, hml, hown, hts, hlocks, hN, hK, hA⟩ := C1
  have hS : va_S (va_A (wC q cI cJ cZ nr wd sg lw hg fr to sn pl kd tg sa sb bn mt pa ob tb fo rv ro tk ov sh tu rk cb rlo rhi rl rg tf kn tl th tv) sz) s.heap s.heap [] := va_S.rf
  generalize va_A (wC q cI cJ cZ nr wd sg lw hg fr to sn pl kd tg sa sb bn mt pa ob tb fo rv ro tk ov sh tu rk cb rlo rhi rl rg tf kn tl th tv) sz = A at C0 hD hA hS ⊢
  show W p l e rmX7_forget s m args below meth c s.heap [] 0 0 (QV below args s A (dC, dI) (ty3 cI cJ cZ) (wC q cI cJ cZ nr wd sg lw hg fr to sn pl kd tg sa sb bn mt pa ob tb fo rv ro RES.1 ov sh tu RES.2.1 cb rlo rhi rl rg tf RES.2.2 tl th tv)) (F0 m 0 ls [])
  unfold mX7_forget at hres
  refine lv_aload_n hx hb dX7_forget_0 rfl (lv_at hl 0 rfl) ?_
  refine va_get (D := (dC, dI)) (ci := 7) (v := .ref (q 19)) (C := RX7) (T := TX7) (N := 7) hx hb hts hwX7_forget_RX7 hown hK hP 0 rfl rfl 4 (by decide) (hts _ mwX7_forget_0) (fun _ h9 => h9) rfl dX7_forget_1 ?_
  refine lv_iconst (v := (0 : Int32)) hx hb dX7_forget_4 (by decide) ?_
  refine va_put (D := (dC, dI)) (ci := 5) (v := .int (0 : Int32)) (ty := .boolean) (C := RX5) (T := TX5) (N := 7) hx hb hts hwX7_forget_RX5 tyX5 tyX5_ok nmX5 hown hK hP hD hS 19 rfl rfl 4 (by decide) (hts _ mwX7_forget_1) (fun _ h9 => h9) rfl (by decide +kernel) rfl rfl (Nat.le_of_ble_eq_true rfl) dX7_forget_5 (fun H locs hP hD hS => ?_)
  have hP : va_P (dC, dI) vwCl (wC q cI cJ cZ nr wd sg lw hg fr to sn pl kd tg sa sb bn mt pa ob tb fo rv ro (0 : Int32) ov sh tu rk cb rlo rhi rl rg tf kn tl th tv) H := hP
  have hD : va_D A (wC q cI cJ cZ nr wd sg lw hg fr to sn pl kd tg sa sb bn mt pa ob tb fo rv ro (0 : Int32) ov sh tu rk cb rlo rhi rl rg tf kn tl th tv) := hD
  refine lv_aload_n hx hb dX7_forget_8 rfl (lv_at hl 0 rfl) ?_
  refine va_get (D := (dC, dI)) (ci := 7) (v := .ref (q 23)) (C := RX7) (T := TX7) (N := 7) hx hb hts hwX7_forget_RX7 hown hK hP 0 rfl rfl 5 (by decide) (hts _ mwX7_forget_2) (fun _ h9 => h9) rfl dX7_forget_9 ?_
  refine lv_iconst (v := (0 : Int32)) hx hb dX7_forget_12 (by decide) ?_
  refine va_put (D := (dC, dI)) (ci := 2) (v := .int (0 : Int32)) (ty := .boolean) (C := RX2) (T := TX2) (N := 9) hx hb hts hwX7_forget_RX2 tyX2 tyX2_ok nmX2 hown hK hP hD hS 23 rfl rfl 2 (by decide) (hts _ mwX7_forget_3) (fun _ h9 => h9) rfl (by decide +kernel) rfl rfl (Nat.le_of_ble_eq_true rfl) dX7_forget_13 (fun H locs hP hD hS => ?_)
  have hP : va_P (dC, dI) vwCl (wC q cI cJ cZ nr wd sg lw hg fr to sn pl kd tg sa sb bn mt pa ob tb fo rv ro (0 : Int32) ov sh tu (0 : Int32) cb rlo rhi rl rg tf kn tl th tv) H := hP
  have hD : va_D A (wC q cI cJ cZ nr wd sg lw hg fr to sn pl kd tg sa sb bn mt pa ob tb fo rv ro (0 : Int32) ov sh tu (0 : Int32) cb rlo rhi rl rg tf kn tl th tv) := hD
  refine lv_aload_n hx hb dX7_forget_16 rfl (lv_at hl 0 rfl) ?_
  refine va_get (D := (dC, dI)) (ci := 7) (v := .ref (q 26)) (C := RX7) (T := TX7) (N := 7) hx hb hts hwX7_forget_RX7 hown hK hP 0 rfl rfl 6 (by decide) (hts _ mwX7_forget_4) (fun _ h9 => h9) rfl dX7_forget_17 ?_
  refine lv_iconst (v := (0 : Int32)) hx hb dX7_forget_20 (by decide) ?_
  refine va_put (D := (dC, dI)) (ci := 6) (v := .int (0 : Int32)) (ty := .boolean) (C := RX6) (T := TX6) (N := 7) hx hb hts hwX7_forget_RX6 tyX6 tyX6_ok nmX6 hown hK hP hD hS 26 rfl rfl 3 (by decide) (hts _ mwX7_forget_5) (fun _ h9 => h9) rfl (by decide +kernel) rfl rfl (Nat.le_of_ble_eq_true rfl) dX7_forget_21 (fun H locs hP hD hS => ?_)
  have hP : va_P (dC, dI) vwCl (wC q cI cJ cZ nr wd sg lw hg fr to sn pl kd tg sa sb bn mt pa ob tb fo rv ro (0 : Int32) ov sh tu (0 : Int32) cb rlo rhi rl rg tf (0 : Int32) tl th tv) H := hP
  have hD : va_D A (wC q cI cJ cZ nr wd sg lw hg fr to sn pl kd tg sa sb bn mt pa ob tb fo rv ro (0 : Int32) ov sh tu (0 : Int32) cb rlo rhi rl rg tf (0 : Int32) tl th tv) := hD
  obtain rfl := Option.some.inj hres
  exact ret_V C0 hP hD hS dX7_forget_24
/-! ### SumsOver.name(IIZ)Z -/
set_option maxRecDepth 20000 in
theorem hwX7_name_RX7 : ∀ w ∈ u_ws RX7 TX7 7, w ∈ wsX7_name := by decide +kernel
theorem mwX7_name_0 : (.fieldLink RX7 10 "SumsOver" "names" "LSumsOver$Names;" : Cond) ∈ wsX7_name := by decide +kernel
def rmX7_name : Room := { frames := 2, cells := 0, slots := 0, locals := 44 }
set_option maxHeartbeats 4000000 in
set_option maxRecDepth 100000 in
theorem kX7_name (l : Launch) (dC : Nat → ClassId) (dI : Nat → Nat → Nat) (q : Nat → Nat) (cI cJ cZ : ClassId) (nr : Int32) (wd : Nat → Int32) (sg : Nat → Int32) (lw : Nat → Int64) (hg : Nat → Int64) (fr : Nat → Int32) (to : Nat → Int32) (sn : Int32) (pl : Int32) (kd : Nat → Int32) (tg : Nat → Int32) (sa : Nat → Int32) (sb : Nat → Int32) (bn : Nat → Int32) (mt : Nat → Int32) (pa : Nat → Int32) (ob : Int32) (tb : Int32) (fo : Int32) (rv : Nat → Int64) (ro : Int32) (tk : Int32) (ov : Nat → Int32) (sh : Nat → Int32) (tu : Nat → Int32) (rk : Int32) (cb : Int32) (rlo : Int64) (rhi : Int64) (rl : Nat → Int64) (rg : Nat → Int64) (tf : Int32) (kn : Int32) (tl : Nat → Int64) (th : Nat → Int64) (tv : Nat → Int64) (x1 : Int32) (x2 : Int32) (x3 : Int32) (RES : Int32 × (Nat → Int32) × (Nat → Int32) × (Nat → Int64) × (Nat → Int64) × (Int32) × (Int32) × (Int32)) (hres : mX7_name wd sg lw hg tk rk kn x1 x2 x3 = some RES) : CtI l yX7_name wsX7_name rmX7_name (dC, dI) (ty3 cI cJ cZ) (wC q cI cJ cZ nr wd sg lw hg fr to sn pl kd tg sa sb bn mt pa ob tb fo rv ro tk ov sh tu rk cb rlo rhi rl rg tf kn tl th tv) [.ref (q 0), .int x1, .int x2, .int x3] RES.1 (wC q cI cJ cZ nr RES.2.1 RES.2.2.1 RES.2.2.2.1 RES.2.2.2.2.1 fr to sn pl kd tg sa sb bn mt pa ob tb fo rv ro RES.2.2.2.2.2.1 ov sh tu RES.2.2.2.2.2.2.1 cb rlo rhi rl rg tf RES.2.2.2.2.2.2.2 tl th tv) := by
  intro sz
  refine ct_entry (cc := cX7_name) (maxL := 4) (ret := some .boolean) (own := RX7) (by decide) rfl rfl (Nat.le_of_ble_eq_true rfl) (ll := [(0, .ref (q 0)), (1, .int x1), (2, .int x2), (3, .int x3)]) rfl ?_
  intro p e s m args below meth c hsz C0 _ hP hD ls hl
  have C1 := C0
  obtain ⟨hx, hb, hr, hml, hown, hts, hlocks, hN, hK, hA⟩ := C1
  have hS : va_S (va_A (wC q cI cJ cZ nr wd sg lw hg fr to sn pl kd tg sa sb bn mt pa ob tb fo rv ro tk ov sh tu rk cb rlo rhi rl rg tf kn tl th tv) sz) s.heap s.heap [] := va_S.rf
  generalize va_A (wC q cI cJ cZ nr wd sg lw hg fr to sn pl kd tg sa sb bn mt pa ob tb fo rv ro tk ov sh tu rk cb rlo rhi rl rg tf kn tl th tv) sz = A at C0 hD hA hS ⊢
  show W p l e rmX7_name s m args below meth c s.heap [] 0 0 (QI below args s A (dC, dI) (ty3 cI cJ cZ) RES.1 (wC q cI cJ cZ nr RES.2.1 RES.2.2.1 RES.2.2.2.1 RES.2.2.2.2.1 fr to sn pl kd tg sa sb bn mt pa ob tb fo rv ro RES.2.2.2.2.2.1 ov sh tu RES.2.2.2.2.2.2.1 cb rlo rhi rl rg tf RES.2.2.2.2.2.2.2 tl th tv)) (F0 m 0 ls [])
  unfold mX7_name at hres
  refine lv_iload_n hx hb dX7_name_0 rfl (lv_at hl 1 rfl) ?_
  obtain ⟨u1, hu1, hres⟩ := mi_b hres
  refine call_I C0 (run_S C0 (rest := []) (kX7_isName l (dC, dI) (ty3 cI cJ cZ) (wC q cI cJ cZ nr wd sg lw hg fr to sn pl kd tg sa sb bn mt pa ob tb fo rv ro tk ov sh tu rk cb rlo rhi rl rg tf kn tl th tv) x1 u1 hu1 _) (va_cwS 1 hts gX7_name_X7_isName rfl rfl rfl (by decide +kernel) ⟨by decide, by decide⟩) hP hD rfl hl.1 rfl (Nat.le_of_ble_eq_true rfl) dX7_name_1) hD hS (fun H locs hP hD hS => ?_)
  refine lv_if_eq (tgt := 18) hx hb dX7_name_4 (by decide) (fun c_2 => ?_) (fun c_2 => ?_)
  · replace hres := mi_p c_2 hres
    refine lv_iconst (v := (0 : Int32)) hx hb dX7_name_18 (by decide) ?_
    obtain rfl := Option.some.inj hres
    exact ret_I (r := (0 : Int32)) C0 rfl hP hD hS dX7_name_19
  · replace hres := mi_n c_2 hres
    refine lv_iload_n hx hb dX7_name_7 rfl (lv_at hl 2 rfl) ?_
    refine lv_iconst (v := (2 : Int32)) hx hb dX7_name_8 (by decide) ?_
    refine lv_icmp_lt (tgt := 18) hx hb dX7_name_9 (by decide) (fun c_3 => ?_) (fun c_3 => ?_)
    · replace hres := mi_p c_3 hres
      refine lv_iconst (v := (0 : Int32)) hx hb dX7_name_18 (by decide) ?_
      obtain rfl := Option.some.inj hres
      exact ret_I (r := (0 : Int32)) C0 rfl hP hD hS dX7_name_19
    · replace hres := mi_n c_3 hres
      refine lv_iload_n hx hb dX7_name_12 rfl (lv_at hl 2 rfl) ?_
      refine lv_bipush (v := (31 : Int32)) hx hb dX7_name_13 (by decide) ?_
      refine lv_icmp_le (tgt := 20) hx hb dX7_name_15 (by decide) (fun c_4 => ?_) (fun c_4 => ?_)
      · replace hres := mi_p c_4 hres
        refine lv_aload_n hx hb dX7_name_20 rfl (lv_at hl 0 rfl) ?_
        refine va_get (D := (dC, dI)) (ci := 7) (v := .ref (q 1)) (C := RX7) (T := TX7) (N := 7) hx hb hts hwX7_name_RX7 hown hK hP 0 rfl rfl 0 (by decide) (hts _ mwX7_name_0) (fun _ h9 => h9) rfl dX7_name_21 ?_
        refine lv_iload_n hx hb dX7_name_24 rfl (lv_at hl 1 rfl) ?_
        refine lv_iload_n hx hb dX7_name_25 rfl (lv_at hl 2 rfl) ?_
        refine lv_iload_n hx hb dX7_name_26 rfl (lv_at hl 3 rfl) ?_
        obtain ⟨u5, hu5, hres⟩ := mi_b hres
        refine call_V C0 (run_V C0 (rest := []) (kX1_tell l dC dI q cI cJ cZ nr wd sg lw hg fr to sn pl kd tg sa sb bn mt pa ob tb fo rv ro tk ov sh tu rk cb rlo rhi rl rg tf kn tl th tv  x1 x2 x3 u5 hu5 _) (cwV 3 hts gX7_name_X1_tell rfl rfl rfl (by decide +kernel) ⟨by decide, by decide⟩) hP hD (ci := 1) (q0 := 1) rfl rfl rfl hl.1 rfl (Nat.le_of_ble_eq_true rfl) dX7_name_27) hD hS (fun H locs hP hD hS => ?_)
        refine lv_aload_n hx hb dX7_name_30 rfl (lv_at hl 0 rfl) ?_
        obtain ⟨u6, hu6, hres⟩ := mi_b hres
        refine call_V C0 (run_V C0 (rest := []) (kX7_forget l dC dI q cI cJ cZ nr u5.1 u5.2.1 u5.2.2.1 u5.2.2.2 fr to sn pl kd tg sa sb bn mt pa ob tb fo rv ro tk ov sh tu rk cb rlo rhi rl rg tf kn tl th tv   u6 hu6 _) (cwV 0 hts gX7_name_X7_forget rfl rfl rfl (by decide +kernel) ⟨by decide, by decide⟩) hP hD (ci := 7) (q0 := 0) rfl rfl rfl hl.1 rfl (Nat.le_of_ble_eq_true rfl) dX7_name_31) hD hS (fun H locs hP hD hS => ?_)
        refine lv_iconst (v := (1 : Int32)) hx hb dX7_name_34 (by decide) ?_
        obtain rfl := Option.some.inj hres
        exact ret_I (r := (1 : Int32)) C0 rfl hP hD hS dX7_name_35
      · replace hres := mi_n c_4 hres
        refine lv_iconst (v := (0 : Int32)) hx hb dX7_name_18 (by decide) ?_
        obtain rfl := Option.some.inj hres
        exact ret_I (r := (0 : Int32)) C0 rfl hP hD hS dX7_name_19
/-! ### SumsOver.span(III)Z -/
set_option maxRecDepth 20000 in
theorem hwX7_span_RX7 : ∀ w ∈ u_ws RX7 TX7 7, w ∈ wsX7_span := by decide +kernel
theorem mwX7_span_0 : (.fieldLink RX7 19 "SumsOver" "inputs" "LSumsOver$Inputs;" : Cond) ∈ wsX7_span := by decide +kernel
set_option maxRecDepth 20000 in
theorem hwX7_span_RX0 : ∀ w ∈ u_ws RX0 TX0 2, w ∈ wsX7_span := by decide +kernel
theorem mwX7_span_1 : (.fieldLink RX7 80 "SumsOver$Inputs" "from" "[I" : Cond) ∈ wsX7_span := by decide +kernel
theorem mwX7_span_2 : (.fieldLink RX7 84 "SumsOver$Inputs" "to" "[I" : Cond) ∈ wsX7_span := by decide +kernel
def rmX7_span : Room := { frames := 1, cells := 0, slots := 0, locals := 20 }
set_option maxHeartbeats 4000000 in
set_option maxRecDepth 100000 in
theorem kX7_span (l : Launch) (dC : Nat → ClassId) (dI : Nat → Nat → Nat) (q : Nat → Nat) (cI cJ cZ : ClassId) (nr : Int32) (wd : Nat → Int32) (sg : Nat → Int32) (lw : Nat → Int64) (hg : Nat → Int64) (fr : Nat → Int32) (to : Nat → Int32) (sn : Int32) (pl : Int32) (kd : Nat → Int32) (tg : Nat → Int32) (sa : Nat → Int32) (sb : Nat → Int32) (bn : Nat → Int32) (mt : Nat → Int32) (pa : Nat → Int32) (ob : Int32) (tb : Int32) (fo : Int32) (rv : Nat → Int64) (ro : Int32) (tk : Int32) (ov : Nat → Int32) (sh : Nat → Int32) (tu : Nat → Int32) (rk : Int32) (cb : Int32) (rlo : Int64) (rhi : Int64) (rl : Nat → Int64) (rg : Nat → Int64) (tf : Int32) (kn : Int32) (tl : Nat → Int64) (th : Nat → Int64) (tv : Nat → Int64) (x1 : Int32) (x2 : Int32) (x3 : Int32) (RES : Int32 × (Nat → Int32) × (Nat → Int32) × (Int32) × (Int32) × (Int32)) (hres : mX7_span fr to tk rk kn x1 x2 x3 = some RES) : CtI l yX7_span wsX7_span rmX7_span (dC, dI) (ty3 cI cJ cZ) (wC q cI cJ cZ nr wd sg lw hg fr to sn pl kd tg sa sb bn mt pa ob tb fo rv ro tk ov sh tu rk cb rlo rhi rl rg tf kn tl th tv) [.ref (q 0), .int x1, .int x2, .int x3] RES.1 (wC q cI cJ cZ nr wd sg lw hg RES.2.1 RES.2.2.1 sn pl kd tg sa sb bn mt pa ob tb fo rv ro RES.2.2.2.1 ov sh tu RES.2.2.2.2.1 cb rlo rhi rl rg tf RES.2.2.2.2.2 tl th tv) := by
  intro sz
  refine ct_entry (cc := cX7_span) (maxL := 4) (ret := some .boolean) (own := RX7) (by decide) rfl rfl (Nat.le_of_ble_eq_true rfl) (ll := [(0, .ref (q 0)), (1, .int x1), (2, .int x2), (3, .int x3)]) rfl ?_
  intro p e s m args below meth c hsz C0 _ hP hD ls hl
  have C1 := C0
  obtain ⟨hx, hb, hr, hml, hown, hts, hlocks, hN, hK, hA⟩ := C1
  have hS : va_S (va_A (wC q cI cJ cZ nr wd sg lw hg fr to sn pl kd tg sa sb bn mt pa ob tb fo rv ro tk ov sh tu rk cb rlo rhi rl rg tf kn tl th tv) sz) s.heap s.heap [] := va_S.rf
  generalize va_A (wC q cI cJ cZ nr wd sg lw hg fr to sn pl kd tg sa sb bn mt pa ob tb fo rv ro tk ov sh tu rk cb rlo rhi rl rg tf kn tl th tv) sz = A at C0 hD hA hS ⊢
  show W p l e rmX7_span s m args below meth c s.heap [] 0 0 (QI below args s A (dC, dI) (ty3 cI cJ cZ) RES.1 (wC q cI cJ cZ nr wd sg lw hg RES.2.1 RES.2.2.1 sn pl kd tg sa sb bn mt pa ob tb fo rv ro RES.2.2.2.1 ov sh tu RES.2.2.2.2.1 cb rlo rhi rl rg tf RES.2.2.2.2.2 tl th tv)) (F0 m 0 ls [])
  unfold mX7_span at hres
  refine lv_iload_n hx hb dX7_span_0 rfl (lv_at hl 1 rfl) ?_
  refine lv_if_lt (tgt := 23) hx hb dX7_span_1 (by decide) (fun c_1 => ?_) (fun c_1 => ?_)
  · replace hres := mi_p c_1 hres
    refine lv_iconst (v := (0 : Int32)) hx hb dX7_span_23 (by decide) ?_
    obtain rfl := Option.some.inj hres
    exact ret_I (r := (0 : Int32)) C0 rfl hP hD hS dX7_span_24
  · replace hres := mi_n c_1 hres
    refine lv_iload_n hx hb dX7_span_4 rfl (lv_at hl 1 rfl) ?_
    refine lv_iconst (v := (2 : Int32)) hx hb dX7_span_5 (by decide) ?_
    refine lv_icmp_ge (tgt := 23) hx hb dX7_span_6 (by decide) (fun c_2 => ?_) (fun c_2 => ?_)
    · replace hres := mi_p c_2 hres
      refine lv_iconst (v := (0 : Int32)) hx hb dX7_span_23 (by decide) ?_
      obtain rfl := Option.some.inj hres
      exact ret_I (r := (0 : Int32)) C0 rfl hP hD hS dX7_span_24
    · replace hres := mi_n c_2 hres
      refine lv_iload_n hx hb dX7_span_9 rfl (lv_at hl 2 rfl) ?_
      obtain ⟨u3, hu3, hres⟩ := mi_b hres
      refine call_I C0 (run_S C0 (rest := []) (kX7_isTold l (dC, dI) (ty3 cI cJ cZ) (wC q cI cJ cZ nr wd sg lw hg fr to sn pl kd tg sa sb bn mt pa ob tb fo rv ro tk ov sh tu rk cb rlo rhi rl rg tf kn tl th tv) x2 u3 hu3 _) (va_cwS 1 hts gX7_span_X7_isTold rfl rfl rfl (by decide +kernel) ⟨by decide, by decide⟩) hP hD rfl hl.1 rfl (Nat.le_of_ble_eq_true rfl) dX7_span_10) hD hS (fun H locs hP hD hS => ?_)
      refine lv_if_eq (tgt := 23) hx hb dX7_span_13 (by decide) (fun c_4 => ?_) (fun c_4 => ?_)
      · replace hres := mi_p c_4 hres
        refine lv_iconst (v := (0 : Int32)) hx hb dX7_span_23 (by decide) ?_
        obtain rfl := Option.some.inj hres
        exact ret_I (r := (0 : Int32)) C0 rfl hP hD hS dX7_span_24
      · replace hres := mi_n c_4 hres
        refine lv_iload_n hx hb dX7_span_16 rfl (lv_at hl 3 rfl) ?_
        obtain ⟨u5, hu5, hres⟩ := mi_b hres
        refine call_I C0 (run_S C0 (rest := []) (kX7_isTold l (dC, dI) (ty3 cI cJ cZ) (wC q cI cJ cZ nr wd sg lw hg fr to sn pl kd tg sa sb bn mt pa ob tb fo rv ro tk ov sh tu rk cb rlo rhi rl rg tf kn tl th tv) x3 u5 hu5 _) (va_cwS 1 hts gX7_span_X7_isTold rfl rfl rfl (by decide +kernel) ⟨by decide, by decide⟩) hP hD rfl hl.1 rfl (Nat.le_of_ble_eq_true rfl) dX7_span_17) hD hS (fun H locs hP hD hS => ?_)
        refine lv_if_ne (tgt := 25) hx hb dX7_span_20 (by decide) (fun c_6 => ?_) (fun c_6 => ?_)
        · replace hres := mi_n c_6 hres
          refine lv_iload_n hx hb dX7_span_25 rfl (lv_at hl 3 rfl) ?_
          refine lv_iload_n hx hb dX7_span_26 rfl (lv_at hl 2 rfl) ?_
          refine lv_icmp_lt (tgt := 38) hx hb dX7_span_27 (by decide) (fun c_7 => ?_) (fun c_7 => ?_)
          · replace hres := mi_p c_7 hres
            refine lv_iconst (v := (0 : Int32)) hx hb dX7_span_38 (by decide) ?_
            obtain rfl := Option.some.inj hres
            exact ret_I (r := (0 : Int32)) C0 rfl hP hD hS dX7_span_39
          · replace hres := mi_n c_7 hres
            refine lv_iload_n hx hb dX7_span_30 rfl (lv_at hl 3 rfl) ?_
            refine lv_iload_n hx hb dX7_span_31 rfl (lv_at hl 2 rfl) ?_
            refine lv_isub hx hb dX7_span_32 ?_
            refine lv_bipush (v := (32 : Int32)) hx hb dX7_span_33 (by decide) ?_
            refine lv_icmp_lt (tgt := 40) hx hb dX7_span_35 (by decide) (fun c_8 => ?_) (fun c_8 => ?_)
            · replace hres := mi_p c_8 hres
              refine lv_aload_n hx hb dX7_span_40 rfl (lv_at hl 0 rfl) ?_
              refine va_get (D := (dC, dI)) (ci := 7) (v := .ref (q 6)) (C := RX7) (T := TX7) (N := 7) hx hb hts hwX7_span_RX7 hown hK hP 0 rfl rfl 1 (by decide) (hts _ mwX7_span_0) (fun _ h9 => h9) rfl dX7_span_41 ?_
              refine va_get (D := (dC, dI)) (ci := 0) (v := .ref (q 7)) (C := RX0) (T := TX0) (N := 2) hx hb hts hwX7_span_RX0 hown hK hP 6 rfl rfl 0 (by decide) (hts _ mwX7_span_1) (fun _ h9 => h9) rfl dX7_span_44 ?_
              refine lv_iload_n hx hb dX7_span_47 rfl (lv_at hl 1 rfl) ?_
              refine lv_iload_n hx hb dX7_span_48 rfl (lv_at hl 2 rfl) ?_
              obtain ⟨g_9, hres⟩ := mi_g hres
              refine va_iast (D := (dC, dI)) (cl := vwCl) hx hb hK hP hD hS 7 0 rfl rfl g_9 dX7_span_49 (fun H locs hP hD hS => ?_)
              have hP : va_P (dC, dI) vwCl (wC q cI cJ cZ nr wd sg lw hg (upd fr (Int32.toNatClampNeg x1) x2) to sn pl kd tg sa sb bn mt pa ob tb fo rv ro tk ov sh tu rk cb rlo rhi rl rg tf kn tl th tv) H := hP
              have hD : va_D A (wC q cI cJ cZ nr wd sg lw hg (upd fr (Int32.toNatClampNeg x1) x2) to sn pl kd tg sa sb bn mt pa ob tb fo rv ro tk ov sh tu rk cb rlo rhi rl rg tf kn tl th tv) := hD
              refine lv_aload_n hx hb dX7_span_50 rfl (lv_at hl 0 rfl) ?_
              refine va_get (D := (dC, dI)) (ci := 7) (v := .ref (q 6)) (C := RX7) (T := TX7) (N := 7) hx hb hts hwX7_span_RX7 hown hK hP 0 rfl rfl 1 (by decide) (hts _ mwX7_span_0) (fun _ h9 => h9) rfl dX7_span_51 ?_
              refine va_get (D := (dC, dI)) (ci := 0) (v := .ref (q 8)) (C := RX0) (T := TX0) (N := 2) hx hb hts hwX7_span_RX0 hown hK hP 6 rfl rfl 1 (by decide) (hts _ mwX7_span_2) (fun _ h9 => h9) rfl dX7_span_54 ?_
              refine lv_iload_n hx hb dX7_span_57 rfl (lv_at hl 1 rfl) ?_
              refine lv_iload_n hx hb dX7_span_58 rfl (lv_at hl 3 rfl) ?_
              refine va_iast (D := (dC, dI)) (cl := vwCl) hx hb hK hP hD hS 8 0 rfl rfl g_9 dX7_span_59 (fun H locs hP hD hS => ?_)
              have hP : va_P (dC, dI) vwCl (wC q cI cJ cZ nr wd sg lw hg (upd fr (Int32.toNatClampNeg x1) x2) (upd to (Int32.toNatClampNeg x1) x3) sn pl kd tg sa sb bn mt pa ob tb fo rv ro tk ov sh tu rk cb rlo rhi rl rg tf kn tl th tv) H := hP
              have hD : va_D A (wC q cI cJ cZ nr wd sg lw hg (upd fr (Int32.toNatClampNeg x1) x2) (upd to (Int32.toNatClampNeg x1) x3) sn pl kd tg sa sb bn mt pa ob tb fo rv ro tk ov sh tu rk cb rlo rhi rl rg tf kn tl th tv) := hD
              refine lv_aload_n hx hb dX7_span_60 rfl (lv_at hl 0 rfl) ?_
              obtain ⟨u10, hu10, hres⟩ := mi_b hres
              refine call_V C0 (run_V C0 (rest := []) (kX7_forget l dC dI q cI cJ cZ nr wd sg lw hg (upd fr (Int32.toNatClampNeg x1) x2) (upd to (Int32.toNatClampNeg x1) x3) sn pl kd tg sa sb bn mt pa ob tb fo rv ro tk ov sh tu rk cb rlo rhi rl rg tf kn tl th tv   u10 hu10 _) (cwV 0 hts gX7_span_X7_forget rfl rfl rfl (by decide +kernel) ⟨by decide, by decide⟩) hP hD (ci := 7) (q0 := 0) rfl rfl rfl hl.1 rfl (Nat.le_of_ble_eq_true rfl) dX7_span_61) hD hS (fun H locs hP hD hS => ?_)
              refine lv_iconst (v := (1 : Int32)) hx hb dX7_span_64 (by decide) ?_
              obtain rfl := Option.some.inj hres
              exact ret_I (r := (1 : Int32)) C0 rfl hP hD hS dX7_span_65
            · replace hres := mi_n c_8 hres
              refine lv_iconst (v := (0 : Int32)) hx hb dX7_span_38 (by decide) ?_
              obtain rfl := Option.some.inj hres
              exact ret_I (r := (0 : Int32)) C0 rfl hP hD hS dX7_span_39
        · replace hres := mi_p c_6 hres
          refine lv_iconst (v := (0 : Int32)) hx hb dX7_span_23 (by decide) ?_
          obtain rfl := Option.some.inj hres
          exact ret_I (r := (0 : Int32)) C0 rfl hP hD hS dX7_span_24
/-! ### SumsOver.canFollow(I)Z -/
set_option maxRecDepth 20000 in
theorem hwX7_canFollow_RX7 : ∀ w ∈ u_ws RX7 TX7 7, w ∈ wsX7_canFollow := by decide +kernel
theorem mwX7_canFollow_0 : (.fieldLink RX7 26 "SumsOver" "steps" "LSumsOver$Steps;" : Cond) ∈ wsX7_canFollow := by decide +kernel
def rmX7_canFollow : Room := { frames := 1, cells := 0, slots := 0, locals := 22 }
set_option maxHeartbeats 4000000 in
set_option maxRecDepth 100000 in
theorem kX7_canFollow (l : Launch) (dC : Nat → ClassId) (dI : Nat → Nat → Nat) (q : Nat → Nat) (cI cJ cZ : ClassId) (nr : Int32) (wd : Nat → Int32) (sg : Nat → Int32) (lw : Nat → Int64) (hg : Nat → Int64) (fr : Nat → Int32) (to : Nat → Int32) (sn : Int32) (pl : Int32) (kd : Nat → Int32) (tg : Nat → Int32) (sa : Nat → Int32) (sb : Nat → Int32) (bn : Nat → Int32) (mt : Nat → Int32) (pa : Nat → Int32) (ob : Int32) (tb : Int32) (fo : Int32) (rv : Nat → Int64) (ro : Int32) (tk : Int32) (ov : Nat → Int32) (sh : Nat → Int32) (tu : Nat → Int32) (rk : Int32) (cb : Int32) (rlo : Int64) (rhi : Int64) (rl : Nat → Int64) (rg : Nat → Int64) (tf : Int32) (kn : Int32) (tl : Nat → Int64) (th : Nat → Int64) (tv : Nat → Int64) (x1 : Int32) (RES : Int32) (hres : mX7_canFollow sn kd x1 = some RES) : CtI l yX7_canFollow wsX7_canFollow rmX7_canFollow (dC, dI) (ty3 cI cJ cZ) (wC q cI cJ cZ nr wd sg lw hg fr to sn pl kd tg sa sb bn mt pa ob tb fo rv ro tk ov sh tu rk cb rlo rhi rl rg tf kn tl th tv) [.ref (q 0), .int x1] RES (wC q cI cJ cZ nr wd sg lw hg fr to sn pl kd tg sa sb bn mt pa ob tb fo rv ro tk ov sh tu rk cb rlo rhi rl rg tf kn tl th tv) := by
  intro sz
  refine ct_entry (cc := cX7_canFollow) (maxL := 2) (ret := some .boolean) (own := RX7) (by decide) rfl rfl (Nat.le_of_ble_eq_true rfl) (ll := [(0, .ref (q 0)), (1, .int x1)]) rfl ?_
  intro p e s m args below meth c hsz C0 _ hP hD ls hl
  have C1 := C0
  obtain ⟨hx, hb, hr, hml, hown, hts, hlocks, hN, hK, hA⟩ := C1
  have hS : va_S (va_A (wC q cI cJ cZ nr wd sg lw hg fr to sn pl kd tg sa sb bn mt pa ob tb fo rv ro tk ov sh tu rk cb rlo rhi rl rg tf kn tl th tv) sz) s.heap s.heap [] := va_S.rf
  generalize va_A (wC q cI cJ cZ nr wd sg lw hg fr to sn pl kd tg sa sb bn mt pa ob tb fo rv ro tk ov sh tu rk cb rlo rhi rl rg tf kn tl th tv) sz = A at C0 hD hA hS ⊢
  show W p l e rmX7_canFollow s m args below meth c s.heap [] 0 0 (QI below args s A (dC, dI) (ty3 cI cJ cZ) RES (wC q cI cJ cZ nr wd sg lw hg fr to sn pl kd tg sa sb bn mt pa ob tb fo rv ro tk ov sh tu rk cb rlo rhi rl rg tf kn tl th tv)) (F0 m 0 ls [])
  unfold mX7_canFollow at hres
  refine lv_iload_n hx hb dX7_canFollow_0 rfl (lv_at hl 1 rfl) ?_
  refine lv_bipush (v := (8 : Int32)) hx hb dX7_canFollow_1 (by decide) ?_
  refine lv_icmp_ne (tgt := 22) hx hb dX7_canFollow_3 (by decide) (fun c_1 => ?_) (fun c_1 => ?_)
  · replace hres := mi_n c_1 hres
    refine lv_iload_n hx hb dX7_canFollow_22 rfl (lv_at hl 1 rfl) ?_
    refine lv_bipush (v := (9 : Int32)) hx hb dX7_canFollow_23 (by decide) ?_
    refine lv_icmp_ne (tgt := 38) hx hb dX7_canFollow_25 (by decide) (fun c_2 => ?_) (fun c_2 => ?_)
    · replace hres := mi_n c_2 hres
      refine lv_iconst (v := (1 : Int32)) hx hb dX7_canFollow_38 (by decide) ?_
      refine lv_goto (tgt := 43) hx hb dX7_canFollow_39 (by decide) ?_
      obtain rfl := Option.some.inj hres
      exact ret_I (r := (1 : Int32)) C0 rfl hP hD hS dX7_canFollow_43
    · replace hres := mi_p c_2 hres
      refine lv_aload_n hx hb dX7_canFollow_28 rfl (lv_at hl 0 rfl) ?_
      refine va_get (D := (dC, dI)) (ci := 7) (v := .ref (q 9)) (C := RX7) (T := TX7) (N := 7) hx hb hts hwX7_canFollow_RX7 hown hK hP 0 rfl rfl 2 (by decide) (hts _ mwX7_canFollow_0) (fun _ h9 => h9) rfl dX7_canFollow_29 ?_
      obtain ⟨u3, hu3, hres⟩ := mi_b hres
      refine call_I C0 (run_V C0 (rest := []) (kX4_inLoop l dC dI q cI cJ cZ nr wd sg lw hg fr to sn pl kd tg sa sb bn mt pa ob tb fo rv ro tk ov sh tu rk cb rlo rhi rl rg tf kn tl th tv   u3 hu3 _) (cwV 0 hts gX7_canFollow_X4_inLoop rfl rfl rfl (by decide +kernel) ⟨by decide, by decide⟩) hP hD (ci := 4) (q0 := 9) rfl rfl rfl hl.1 rfl (Nat.le_of_ble_eq_true rfl) dX7_canFollow_32) hD hS (fun H locs hP hD hS => ?_)
      refine lv_if_eq (tgt := 42) hx hb dX7_canFollow_35 (by decide) (fun c_4 => ?_) (fun c_4 => ?_)
      · replace hres := mi_p c_4 hres
        refine lv_iconst (v := (0 : Int32)) hx hb dX7_canFollow_42 (by decide) ?_
        obtain rfl := Option.some.inj hres
        exact ret_I (r := (0 : Int32)) C0 rfl hP hD hS dX7_canFollow_43
      · replace hres := mi_n c_4 hres
        refine lv_iconst (v := (1 : Int32)) hx hb dX7_canFollow_38 (by decide) ?_
        refine lv_goto (tgt := 43) hx hb dX7_canFollow_39 (by decide) ?_
        obtain rfl := Option.some.inj hres
        exact ret_I (r := (1 : Int32)) C0 rfl hP hD hS dX7_canFollow_43
  · replace hres := mi_p c_1 hres
    refine lv_aload_n hx hb dX7_canFollow_6 rfl (lv_at hl 0 rfl) ?_
    refine va_get (D := (dC, dI)) (ci := 7) (v := .ref (q 9)) (C := RX7) (T := TX7) (N := 7) hx hb hts hwX7_canFollow_RX7 hown hK hP 0 rfl rfl 2 (by decide) (hts _ mwX7_canFollow_0) (fun _ h9 => h9) rfl dX7_canFollow_7 ?_
    obtain ⟨u5, hu5, hres⟩ := mi_b hres
    refine call_I C0 (run_V C0 (rest := []) (kX4_inLoop l dC dI q cI cJ cZ nr wd sg lw hg fr to sn pl kd tg sa sb bn mt pa ob tb fo rv ro tk ov sh tu rk cb rlo rhi rl rg tf kn tl th tv   u5 hu5 _) (cwV 0 hts gX7_canFollow_X4_inLoop rfl rfl rfl (by decide +kernel) ⟨by decide, by decide⟩) hP hD (ci := 4) (q0 := 9) rfl rfl rfl hl.1 rfl (Nat.le_of_ble_eq_true rfl) dX7_canFollow_10) hD hS (fun H locs hP hD hS => ?_)
    refine lv_if_ne (tgt := 20) hx hb dX7_canFollow_13 (by decide) (fun c_6 => ?_) (fun c_6 => ?_)
    · replace hres := mi_n c_6 hres
      refine lv_iconst (v := (0 : Int32)) hx hb dX7_canFollow_20 (by decide) ?_
      obtain rfl := Option.some.inj hres
      exact ret_I (r := (0 : Int32)) C0 rfl hP hD hS dX7_canFollow_21
    · replace hres := mi_p c_6 hres
      refine lv_iconst (v := (1 : Int32)) hx hb dX7_canFollow_16 (by decide) ?_
      refine lv_goto (tgt := 21) hx hb dX7_canFollow_17 (by decide) ?_
      obtain rfl := Option.some.inj hres
      exact ret_I (r := (1 : Int32)) C0 rfl hP hD hS dX7_canFollow_21
/-! ### SumsOver.step(IIII)I -/
set_option maxRecDepth 20000 in
theorem hwX7_step_RX7 : ∀ w ∈ u_ws RX7 TX7 7, w ∈ wsX7_step := by decide +kernel
theorem mwX7_step_0 : (.fieldLink RX7 26 "SumsOver" "steps" "LSumsOver$Steps;" : Cond) ∈ wsX7_step := by decide +kernel
set_option maxRecDepth 20000 in
theorem hwX7_step_RX4 : ∀ w ∈ u_ws RX4 TX4 9, w ∈ wsX7_step := by decide +kernel
theorem mwX7_step_1 : (.fieldLink RX7 87 "SumsOver$Steps" "size" "I" : Cond) ∈ wsX7_step := by decide +kernel
def rmX7_step : Room := { frames := 3, cells := 0, slots := 0, locals := 70 }
set_option maxHeartbeats 4000000 in
set_option maxRecDepth 100000 in
theorem kX7_step (l : Launch) (dC : Nat → ClassId) (dI : Nat → Nat → Nat) (q : Nat → Nat) (cI cJ cZ : ClassId) (nr : Int32) (wd : Nat → Int32) (sg : Nat → Int32) (lw : Nat → Int64) (hg : Nat → Int64) (fr : Nat → Int32) (to : Nat → Int32) (sn : Int32) (pl : Int32) (kd : Nat → Int32) (tg : Nat → Int32) (sa : Nat → Int32) (sb : Nat → Int32) (bn : Nat → Int32) (mt : Nat → Int32) (pa : Nat → Int32) (ob : Int32) (tb : Int32) (fo : Int32) (rv : Nat → Int64) (ro : Int32) (tk : Int32) (ov : Nat → Int32) (sh : Nat → Int32) (tu : Nat → Int32) (rk : Int32) (cb : Int32) (rlo : Int64) (rhi : Int64) (rl : Nat → Int64) (rg : Nat → Int64) (tf : Int32) (kn : Int32) (tl : Nat → Int64) (th : Nat → Int64) (tv : Nat → Int64) (x1 : Int32) (x2 : Int32) (x3 : Int32) (x4 : Int32) (RES : Int32 × (Int32) × (Int32) × (Nat → Int32) × (Nat → Int32) × (Nat → Int32) × (Nat → Int32) × (Nat → Int32) × (Nat → Int32) × (Int32) × (Int32) × (Int32)) (hres : mX7_step sn pl kd tg sa sb bn pa tk rk kn x1 x2 x3 x4 = some RES) : CtI l yX7_step wsX7_step rmX7_step (dC, dI) (ty3 cI cJ cZ) (wC q cI cJ cZ nr wd sg lw hg fr to sn pl kd tg sa sb bn mt pa ob tb fo rv ro tk ov sh tu rk cb rlo rhi rl rg tf kn tl th tv) [.ref (q 0), .int x1, .int x2, .int x3, .int x4] RES.1 (wC q cI cJ cZ nr wd sg lw hg fr to RES.2.1 RES.2.2.1 RES.2.2.2.1 RES.2.2.2.2.1 RES.2.2.2.2.2.1 RES.2.2.2.2.2.2.1 RES.2.2.2.2.2.2.2.1 mt RES.2.2.2.2.2.2.2.2.1 ob tb fo rv ro RES.2.2.2.2.2.2.2.2.2.1 ov sh tu RES.2.2.2.2.2.2.2.2.2.2.1 cb rlo rhi rl rg tf RES.2.2.2.2.2.2.2.2.2.2.2 tl th tv) := by
  intro sz
  refine ct_entry (cc := cX7_step) (maxL := 5) (ret := some .int) (own := RX7) (by decide) rfl rfl (Nat.le_of_ble_eq_true rfl) (ll := [(0, .ref (q 0)), (1, .int x1), (2, .int x2), (3, .int x3), (4, .int x4)]) rfl ?_
  intro p e s m args below meth c hsz C0 _ hP hD ls hl
  have C1 := C0
  obtain ⟨hx, hb, hr, hml, hown, hts, hlocks, hN, hK, hA⟩ := C1
  have hS : va_S (va_A (wC q cI cJ cZ nr wd sg lw hg fr to sn pl kd tg sa sb bn mt pa ob tb fo rv ro tk ov sh tu rk cb rlo rhi rl rg tf kn tl th tv) sz) s.heap s.heap [] := va_S.rf
  generalize va_A (wC q cI cJ cZ nr wd sg lw hg fr to sn pl kd tg sa sb bn mt pa ob tb fo rv ro tk ov sh tu rk cb rlo rhi rl rg tf kn tl th tv) sz = A at C0 hD hA hS ⊢
  show W p l e rmX7_step s m args below meth c s.heap [] 0 0 (QI below args s A (dC, dI) (ty3 cI cJ cZ) RES.1 (wC q cI cJ cZ nr wd sg lw hg fr to RES.2.1 RES.2.2.1 RES.2.2.2.1 RES.2.2.2.2.1 RES.2.2.2.2.2.1 RES.2.2.2.2.2.2.1 RES.2.2.2.2.2.2.2.1 mt RES.2.2.2.2.2.2.2.2.1 ob tb fo rv ro RES.2.2.2.2.2.2.2.2.2.1 ov sh tu RES.2.2.2.2.2.2.2.2.2.2.1 cb rlo rhi rl rg tf RES.2.2.2.2.2.2.2.2.2.2.2 tl th tv)) (F0 m 0 ls [])
  unfold mX7_step at hres
  refine lv_aload_n hx hb dX7_step_0 rfl (lv_at hl 0 rfl) ?_
  refine va_get (D := (dC, dI)) (ci := 7) (v := .ref (q 9)) (C := RX7) (T := TX7) (N := 7) hx hb hts hwX7_step_RX7 hown hK hP 0 rfl rfl 2 (by decide) (hts _ mwX7_step_0) (fun _ h9 => h9) rfl dX7_step_1 ?_
  refine va_get (D := (dC, dI)) (ci := 4) (v := .int sn) (C := RX4) (T := TX4) (N := 9) hx hb hts hwX7_step_RX4 hown hK hP 9 rfl rfl 6 (by decide) (hts _ mwX7_step_1) (fun _ h9 => h9) rfl dX7_step_4 ?_
  refine lv_bipush (v := (24 : Int32)) hx hb dX7_step_7 (by decide) ?_
  refine lv_icmp_ge (tgt := 31) hx hb dX7_step_9 (by decide) (fun c_1 => ?_) (fun c_1 => ?_)
  · replace hres := mi_p c_1 hres
    refine lv_iconst (v := (-1 : Int32)) hx hb dX7_step_31 (by decide) ?_
    obtain rfl := Option.some.inj hres
    exact ret_I (r := (-1 : Int32)) C0 rfl hP hD hS dX7_step_32
  · replace hres := mi_n c_1 hres
    refine lv_aload_n hx hb dX7_step_12 rfl (lv_at hl 0 rfl) ?_
    refine lv_iload_n hx hb dX7_step_13 rfl (lv_at hl 1 rfl) ?_
    obtain ⟨u2, hu2, hres⟩ := mi_b hres
    refine call_I C0 (run_V C0 (rest := []) (kX7_canFollow l dC dI q cI cJ cZ nr wd sg lw hg fr to sn pl kd tg sa sb bn mt pa ob tb fo rv ro tk ov sh tu rk cb rlo rhi rl rg tf kn tl th tv  x1 u2 hu2 _) (cwV 1 hts gX7_step_X7_canFollow rfl rfl rfl (by decide +kernel) ⟨by decide, by decide⟩) hP hD (ci := 7) (q0 := 0) rfl rfl rfl hl.1 rfl (Nat.le_of_ble_eq_true rfl) dX7_step_14) hD hS (fun H locs hP hD hS => ?_)
    refine lv_if_eq (tgt := 31) hx hb dX7_step_17 (by decide) (fun c_3 => ?_) (fun c_3 => ?_)
    · replace hres := mi_p c_3 hres
      refine lv_iconst (v := (-1 : Int32)) hx hb dX7_step_31 (by decide) ?_
      obtain rfl := Option.some.inj hres
      exact ret_I (r := (-1 : Int32)) C0 rfl hP hD hS dX7_step_32
    · replace hres := mi_n c_3 hres
      refine lv_iload_n hx hb dX7_step_20 rfl (lv_at hl 1 rfl) ?_
      refine lv_iload_n hx hb dX7_step_21 rfl (lv_at hl 2 rfl) ?_
      refine lv_iload_n hx hb dX7_step_22 rfl (lv_at hl 3 rfl) ?_
      refine lv_iload hx hb dX7_step_23 (lv_at hl 4 rfl) ?_
      obtain ⟨u4, hu4, hres⟩ := mi_b hres
      refine call_I C0 (run_S C0 (rest := []) (kX7_canBe l (dC, dI) (ty3 cI cJ cZ) (wC q cI cJ cZ nr wd sg lw hg fr to sn pl kd tg sa sb bn mt pa ob tb fo rv ro tk ov sh tu rk cb rlo rhi rl rg tf kn tl th tv) x1 x2 x3 x4 u4 hu4 _) (va_cwS 4 hts gX7_step_X7_canBe rfl rfl rfl (by decide +kernel) ⟨by decide, by decide⟩) hP hD rfl hl.1 rfl (Nat.le_of_ble_eq_true rfl) dX7_step_25) hD hS (fun H locs hP hD hS => ?_)
      refine lv_if_ne (tgt := 33) hx hb dX7_step_28 (by decide) (fun c_5 => ?_) (fun c_5 => ?_)
      · replace hres := mi_n c_5 hres
        refine lv_aload_n hx hb dX7_step_33 rfl (lv_at hl 0 rfl) ?_
        refine va_get (D := (dC, dI)) (ci := 7) (v := .ref (q 9)) (C := RX7) (T := TX7) (N := 7) hx hb hts hwX7_step_RX7 hown hK hP 0 rfl rfl 2 (by decide) (hts _ mwX7_step_0) (fun _ h9 => h9) rfl dX7_step_34 ?_
        refine lv_iload_n hx hb dX7_step_37 rfl (lv_at hl 1 rfl) ?_
        refine lv_iload_n hx hb dX7_step_38 rfl (lv_at hl 2 rfl) ?_
        refine lv_iload_n hx hb dX7_step_39 rfl (lv_at hl 3 rfl) ?_
        refine lv_iload hx hb dX7_step_40 (lv_at hl 4 rfl) ?_
        obtain ⟨u6, hu6, hres⟩ := mi_b hres
        refine call_V C0 (run_V C0 (rest := []) (kX4_append l dC dI q cI cJ cZ nr wd sg lw hg fr to sn pl kd tg sa sb bn mt pa ob tb fo rv ro tk ov sh tu rk cb rlo rhi rl rg tf kn tl th tv  x1 x2 x3 x4 u6 hu6 _) (cwV 4 hts gX7_step_X4_append rfl rfl rfl (by decide +kernel) ⟨by decide, by decide⟩) hP hD (ci := 4) (q0 := 9) rfl rfl rfl hl.1 rfl (Nat.le_of_ble_eq_true rfl) dX7_step_42) hD hS (fun H locs hP hD hS => ?_)
        refine lv_aload_n hx hb dX7_step_45 rfl (lv_at hl 0 rfl) ?_
        obtain ⟨u7, hu7, hres⟩ := mi_b hres
        refine call_V C0 (run_V C0 (rest := []) (kX7_forget l dC dI q cI cJ cZ nr wd sg lw hg fr to u6.1 u6.2.1 u6.2.2.1 u6.2.2.2.1 u6.2.2.2.2.1 u6.2.2.2.2.2.1 u6.2.2.2.2.2.2.1 mt u6.2.2.2.2.2.2.2 ob tb fo rv ro tk ov sh tu rk cb rlo rhi rl rg tf kn tl th tv   u7 hu7 _) (cwV 0 hts gX7_step_X7_forget rfl rfl rfl (by decide +kernel) ⟨by decide, by decide⟩) hP hD (ci := 7) (q0 := 0) rfl rfl rfl hl.1 rfl (Nat.le_of_ble_eq_true rfl) dX7_step_46) hD hS (fun H locs hP hD hS => ?_)
        refine lv_aload_n hx hb dX7_step_49 rfl (lv_at hl 0 rfl) ?_
        refine va_get (D := (dC, dI)) (ci := 7) (v := .ref (q 9)) (C := RX7) (T := TX7) (N := 7) hx hb hts hwX7_step_RX7 hown hK hP 0 rfl rfl 2 (by decide) (hts _ mwX7_step_0) (fun _ h9 => h9) rfl dX7_step_50 ?_
        refine va_get (D := (dC, dI)) (ci := 4) (v := .int u6.1) (C := RX4) (T := TX4) (N := 9) hx hb hts hwX7_step_RX4 hown hK hP 9 rfl rfl 6 (by decide) (hts _ mwX7_step_1) (fun _ h9 => h9) rfl dX7_step_53 ?_
        refine lv_iconst (v := (1 : Int32)) hx hb dX7_step_56 (by decide) ?_
        refine lv_isub hx hb dX7_step_57 ?_
        obtain rfl := Option.some.inj hres
        exact ret_I (r := (u6.1 - (1 : Int32))) C0 rfl hP hD hS dX7_step_58
      · replace hres := mi_p c_5 hres
        refine lv_iconst (v := (-1 : Int32)) hx hb dX7_step_31 (by decide) ?_
        obtain rfl := Option.some.inj hres
        exact ret_I (r := (-1 : Int32)) C0 rfl hP hD hS dX7_step_32
/-! ### SumsOver.back()Z -/
set_option maxRecDepth 20000 in
theorem hwX7_back_RX7 : ∀ w ∈ u_ws RX7 TX7 7, w ∈ wsX7_back := by decide +kernel
theorem mwX7_back_0 : (.fieldLink RX7 26 "SumsOver" "steps" "LSumsOver$Steps;" : Cond) ∈ wsX7_back := by decide +kernel
set_option maxRecDepth 20000 in
theorem hwX7_back_RX4 : ∀ w ∈ u_ws RX4 TX4 9, w ∈ wsX7_back := by decide +kernel
theorem mwX7_back_1 : (.fieldLink RX7 87 "SumsOver$Steps" "size" "I" : Cond) ∈ wsX7_back := by decide +kernel
def rmX7_back : Room := { frames := 3, cells := 0, slots := 0, locals := 66 }
set_option maxHeartbeats 4000000 in
set_option maxRecDepth 100000 in
theorem kX7_back (l : Launch) (dC : Nat → ClassId) (dI : Nat → Nat → Nat) (q : Nat → Nat) (cI cJ cZ : ClassId) (nr : Int32) (wd : Nat → Int32) (sg : Nat → Int32) (lw : Nat → Int64) (hg : Nat → Int64) (fr : Nat → Int32) (to : Nat → Int32) (sn : Int32) (pl : Int32) (kd : Nat → Int32) (tg : Nat → Int32) (sa : Nat → Int32) (sb : Nat → Int32) (bn : Nat → Int32) (mt : Nat → Int32) (pa : Nat → Int32) (ob : Int32) (tb : Int32) (fo : Int32) (rv : Nat → Int64) (ro : Int32) (tk : Int32) (ov : Nat → Int32) (sh : Nat → Int32) (tu : Nat → Int32) (rk : Int32) (cb : Int32) (rlo : Int64) (rhi : Int64) (rl : Nat → Int64) (rg : Nat → Int64) (tf : Int32) (kn : Int32) (tl : Nat → Int64) (th : Nat → Int64) (tv : Nat → Int64)  (RES : Int32 × (Int32) × (Int32) × (Nat → Int32) × (Nat → Int32) × (Int32) × (Int32) × (Int32)) (hres : mX7_back sn pl kd sb mt pa tk rk kn = some RES) : CtI l yX7_back wsX7_back rmX7_back (dC, dI) (ty3 cI cJ cZ) (wC q cI cJ cZ nr wd sg lw hg fr to sn pl kd tg sa sb bn mt pa ob tb fo rv ro tk ov sh tu rk cb rlo rhi rl rg tf kn tl th tv) [.ref (q 0)] RES.1 (wC q cI cJ cZ nr wd sg lw hg fr to RES.2.1 RES.2.2.1 kd tg sa sb bn RES.2.2.2.1 RES.2.2.2.2.1 ob tb fo rv ro RES.2.2.2.2.2.1 ov sh tu RES.2.2.2.2.2.2.1 cb rlo rhi rl rg tf RES.2.2.2.2.2.2.2 tl th tv) := by
  intro sz
  refine ct_entry (cc := cX7_back) (maxL := 1) (ret := some .boolean) (own := RX7) (by decide) rfl rfl (Nat.le_of_ble_eq_true rfl) (ll := [(0, .ref (q 0))]) rfl ?_
  intro p e s m args below meth c hsz C0 _ hP hD ls hl
  have C1 := C0
  obtain ⟨hx, hb, hr, hml, hown, hts, hlocks, hN, hK, hA⟩ := C1
  have hS : va_S (va_A (wC q cI cJ cZ nr wd sg lw hg fr to sn pl kd tg sa sb bn mt pa ob tb fo rv ro tk ov sh tu rk cb rlo rhi rl rg tf kn tl th tv) sz) s.heap s.heap [] := va_S.rf
  generalize va_A (wC q cI cJ cZ nr wd sg lw hg fr to sn pl kd tg sa sb bn mt pa ob tb fo rv ro tk ov sh tu rk cb rlo rhi rl rg tf kn tl th tv) sz = A at C0 hD hA hS ⊢
  show W p l e rmX7_back s m args below meth c s.heap [] 0 0 (QI below args s A (dC, dI) (ty3 cI cJ cZ) RES.1 (wC q cI cJ cZ nr wd sg lw hg fr to RES.2.1 RES.2.2.1 kd tg sa sb bn RES.2.2.2.1 RES.2.2.2.2.1 ob tb fo rv ro RES.2.2.2.2.2.1 ov sh tu RES.2.2.2.2.2.2.1 cb rlo rhi rl rg tf RES.2.2.2.2.2.2.2 tl th tv)) (F0 m 0 ls [])
  unfold mX7_back at hres
  refine lv_aload_n hx hb dX7_back_0 rfl (lv_at hl 0 rfl) ?_
  refine va_get (D := (dC, dI)) (ci := 7) (v := .ref (q 9)) (C := RX7) (T := TX7) (N := 7) hx hb hts hwX7_back_RX7 hown hK hP 0 rfl rfl 2 (by decide) (hts _ mwX7_back_0) (fun _ h9 => h9) rfl dX7_back_1 ?_
  refine va_get (D := (dC, dI)) (ci := 4) (v := .int sn) (C := RX4) (T := TX4) (N := 9) hx hb hts hwX7_back_RX4 hown hK hP 9 rfl rfl 6 (by decide) (hts _ mwX7_back_1) (fun _ h9 => h9) rfl dX7_back_4 ?_
  refine lv_if_ne (tgt := 12) hx hb dX7_back_7 (by decide) (fun c_1 => ?_) (fun c_1 => ?_)
  · replace hres := mi_n c_1 hres
    refine lv_aload_n hx hb dX7_back_12 rfl (lv_at hl 0 rfl) ?_
    refine va_get (D := (dC, dI)) (ci := 7) (v := .ref (q 9)) (C := RX7) (T := TX7) (N := 7) hx hb hts hwX7_back_RX7 hown hK hP 0 rfl rfl 2 (by decide) (hts _ mwX7_back_0) (fun _ h9 => h9) rfl dX7_back_13 ?_
    obtain ⟨u2, hu2, hres⟩ := mi_b hres
    refine call_V C0 (run_V C0 (rest := []) (kX4_dropLast l dC dI q cI cJ cZ nr wd sg lw hg fr to sn pl kd tg sa sb bn mt pa ob tb fo rv ro tk ov sh tu rk cb rlo rhi rl rg tf kn tl th tv   u2 hu2 _) (cwV 0 hts gX7_back_X4_dropLast rfl rfl rfl (by decide +kernel) ⟨by decide, by decide⟩) hP hD (ci := 4) (q0 := 9) rfl rfl rfl hl.1 rfl (Nat.le_of_ble_eq_true rfl) dX7_back_16) hD hS (fun H locs hP hD hS => ?_)
    refine lv_aload_n hx hb dX7_back_19 rfl (lv_at hl 0 rfl) ?_
    obtain ⟨u3, hu3, hres⟩ := mi_b hres
    refine call_V C0 (run_V C0 (rest := []) (kX7_forget l dC dI q cI cJ cZ nr wd sg lw hg fr to u2.1 u2.2.1 kd tg sa sb bn u2.2.2.1 u2.2.2.2 ob tb fo rv ro tk ov sh tu rk cb rlo rhi rl rg tf kn tl th tv   u3 hu3 _) (cwV 0 hts gX7_back_X7_forget rfl rfl rfl (by decide +kernel) ⟨by decide, by decide⟩) hP hD (ci := 7) (q0 := 0) rfl rfl rfl hl.1 rfl (Nat.le_of_ble_eq_true rfl) dX7_back_20) hD hS (fun H locs hP hD hS => ?_)
    refine lv_iconst (v := (1 : Int32)) hx hb dX7_back_23 (by decide) ?_
    obtain rfl := Option.some.inj hres
    exact ret_I (r := (1 : Int32)) C0 rfl hP hD hS dX7_back_24
  · replace hres := mi_p c_1 hres
    refine lv_iconst (v := (0 : Int32)) hx hb dX7_back_10 (by decide) ?_
    obtain rfl := Option.some.inj hres
    exact ret_I (r := (0 : Int32)) C0 rfl hP hD hS dX7_back_11
/-! ### SumsOver.mode(I)Z -/
set_option maxRecDepth 20000 in
theorem hwX7_mode_RX7 : ∀ w ∈ u_ws RX7 TX7 7, w ∈ wsX7_mode := by decide +kernel
theorem mwX7_mode_0 : (.fieldLink RX7 10 "SumsOver" "names" "LSumsOver$Names;" : Cond) ∈ wsX7_mode := by decide +kernel
set_option maxRecDepth 20000 in
theorem hwX7_mode_RX1 : ∀ w ∈ u_ws RX1 TX1 5, w ∈ wsX7_mode := by decide +kernel
theorem mwX7_mode_1 : (.fieldLink RX7 105 "SumsOver$Names" "nearest" "Z" : Cond) ∈ wsX7_mode := by decide +kernel
def rmX7_mode : Room := { frames := 1, cells := 0, slots := 0, locals := 20 }
set_option maxHeartbeats 4000000 in
set_option maxRecDepth 100000 in
theorem kX7_mode (l : Launch) (dC : Nat → ClassId) (dI : Nat → Nat → Nat) (q : Nat → Nat) (cI cJ cZ : ClassId) (nr : Int32) (wd : Nat → Int32) (sg : Nat → Int32) (lw : Nat → Int64) (hg : Nat → Int64) (fr : Nat → Int32) (to : Nat → Int32) (sn : Int32) (pl : Int32) (kd : Nat → Int32) (tg : Nat → Int32) (sa : Nat → Int32) (sb : Nat → Int32) (bn : Nat → Int32) (mt : Nat → Int32) (pa : Nat → Int32) (ob : Int32) (tb : Int32) (fo : Int32) (rv : Nat → Int64) (ro : Int32) (tk : Int32) (ov : Nat → Int32) (sh : Nat → Int32) (tu : Nat → Int32) (rk : Int32) (cb : Int32) (rlo : Int64) (rhi : Int64) (rl : Nat → Int64) (rg : Nat → Int64) (tf : Int32) (kn : Int32) (tl : Nat → Int64) (th : Nat → Int64) (tv : Nat → Int64) (x1 : Int32) (RES : Int32 × (Int32) × (Int32) × (Int32) × (Int32)) (hres : mX7_mode nr tk rk kn x1 = some RES) : CtI l yX7_mode wsX7_mode rmX7_mode (dC, dI) (ty3 cI cJ cZ) (wC q cI cJ cZ nr wd sg lw hg fr to sn pl kd tg sa sb bn mt pa ob tb fo rv ro tk ov sh tu rk cb rlo rhi rl rg tf kn tl th tv) [.ref (q 0), .int x1] RES.1 (wC q cI cJ cZ RES.2.1 wd sg lw hg fr to sn pl kd tg sa sb bn mt pa ob tb fo rv ro RES.2.2.1 ov sh tu RES.2.2.2.1 cb rlo rhi rl rg tf RES.2.2.2.2 tl th tv) := by
  intro sz
  refine ct_entry (cc := cX7_mode) (maxL := 2) (ret := some .boolean) (own := RX7) (by decide) rfl rfl (Nat.le_of_ble_eq_true rfl) (ll := [(0, .ref (q 0)), (1, .int x1)]) rfl ?_
  intro p e s m args below meth c hsz C0 _ hP hD ls hl
  have C1 := C0
  obtain ⟨hx, hb, hr, hml, hown, hts, hlocks, hN, hK, hA⟩ := C1
  have hS : va_S (va_A (wC q cI cJ cZ nr wd sg lw hg fr to sn pl kd tg sa sb bn mt pa ob tb fo rv ro tk ov sh tu rk cb rlo rhi rl rg tf kn tl th tv) sz) s.heap s.heap [] := va_S.rf
  generalize va_A (wC q cI cJ cZ nr wd sg lw hg fr to sn pl kd tg sa sb bn mt pa ob tb fo rv ro tk ov sh tu rk cb rlo rhi rl rg tf kn tl th tv) sz = A at C0 hD hA hS ⊢
  show W p l e rmX7_mode s m args below meth c s.heap [] 0 0 (QI below args s A (dC, dI) (ty3 cI cJ cZ) RES.1 (wC q cI cJ cZ RES.2.1 wd sg lw hg fr to sn pl kd tg sa sb bn mt pa ob tb fo rv ro RES.2.2.1 ov sh tu RES.2.2.2.1 cb rlo rhi rl rg tf RES.2.2.2.2 tl th tv)) (F0 m 0 ls [])
  unfold mX7_mode at hres
  refine lv_iload_n hx hb dX7_mode_0 rfl (lv_at hl 1 rfl) ?_
  refine lv_if_eq (tgt := 11) hx hb dX7_mode_1 (by decide) (fun c_1 => ?_) (fun c_1 => ?_)
  · replace hres := mi_p c_1 hres
    refine lv_aload_n hx hb dX7_mode_11 rfl (lv_at hl 0 rfl) ?_
    refine va_get (D := (dC, dI)) (ci := 7) (v := .ref (q 1)) (C := RX7) (T := TX7) (N := 7) hx hb hts hwX7_mode_RX7 hown hK hP 0 rfl rfl 0 (by decide) (hts _ mwX7_mode_0) (fun _ h9 => h9) rfl dX7_mode_12 ?_
    refine lv_iload_n hx hb dX7_mode_15 rfl (lv_at hl 1 rfl) ?_
    refine lv_iconst (v := (1 : Int32)) hx hb dX7_mode_16 (by decide) ?_
    refine lv_icmp_ne (tgt := 24) hx hb dX7_mode_17 (by decide) (fun c_2 => ?_) (fun c_2 => ?_)
    · replace hres := mi_n c_2 hres
      refine lv_iconst (v := (0 : Int32)) hx hb dX7_mode_24 (by decide) ?_
      refine va_put (D := (dC, dI)) (ci := 1) (v := .int (0 : Int32)) (ty := .boolean) (C := RX1) (T := TX1) (N := 5) hx hb hts hwX7_mode_RX1 tyX1 tyX1_ok nmX1 hown hK hP hD hS 1 rfl rfl 4 (by decide) (hts _ mwX7_mode_1) (fun _ h9 => h9) rfl (by decide +kernel) rfl rfl (Nat.le_of_ble_eq_true rfl) dX7_mode_25 (fun H locs hP hD hS => ?_)
      have hP : va_P (dC, dI) vwCl (wC q cI cJ cZ (0 : Int32) wd sg lw hg fr to sn pl kd tg sa sb bn mt pa ob tb fo rv ro tk ov sh tu rk cb rlo rhi rl rg tf kn tl th tv) H := hP
      have hD : va_D A (wC q cI cJ cZ (0 : Int32) wd sg lw hg fr to sn pl kd tg sa sb bn mt pa ob tb fo rv ro tk ov sh tu rk cb rlo rhi rl rg tf kn tl th tv) := hD
      refine lv_aload_n hx hb dX7_mode_28 rfl (lv_at hl 0 rfl) ?_
      obtain ⟨u3, hu3, hres⟩ := mi_b hres
      refine call_V C0 (run_V C0 (rest := []) (kX7_forget l dC dI q cI cJ cZ (0 : Int32) wd sg lw hg fr to sn pl kd tg sa sb bn mt pa ob tb fo rv ro tk ov sh tu rk cb rlo rhi rl rg tf kn tl th tv   u3 hu3 _) (cwV 0 hts gX7_mode_X7_forget rfl rfl rfl (by decide +kernel) ⟨by decide, by decide⟩) hP hD (ci := 7) (q0 := 0) rfl rfl rfl hl.1 rfl (Nat.le_of_ble_eq_true rfl) dX7_mode_29) hD hS (fun H locs hP hD hS => ?_)
      refine lv_iconst (v := (1 : Int32)) hx hb dX7_mode_32 (by decide) ?_
      obtain rfl := Option.some.inj hres
      exact ret_I (r := (1 : Int32)) C0 rfl hP hD hS dX7_mode_33
    · replace hres := mi_p c_2 hres
      refine lv_iconst (v := (1 : Int32)) hx hb dX7_mode_20 (by decide) ?_
      refine lv_goto (tgt := 25) hx hb dX7_mode_21 (by decide) ?_
      refine va_put (D := (dC, dI)) (ci := 1) (v := .int (1 : Int32)) (ty := .boolean) (C := RX1) (T := TX1) (N := 5) hx hb hts hwX7_mode_RX1 tyX1 tyX1_ok nmX1 hown hK hP hD hS 1 rfl rfl 4 (by decide) (hts _ mwX7_mode_1) (fun _ h9 => h9) rfl (by decide +kernel) rfl rfl (Nat.le_of_ble_eq_true rfl) dX7_mode_25 (fun H locs hP hD hS => ?_)
      have hP : va_P (dC, dI) vwCl (wC q cI cJ cZ (1 : Int32) wd sg lw hg fr to sn pl kd tg sa sb bn mt pa ob tb fo rv ro tk ov sh tu rk cb rlo rhi rl rg tf kn tl th tv) H := hP
      have hD : va_D A (wC q cI cJ cZ (1 : Int32) wd sg lw hg fr to sn pl kd tg sa sb bn mt pa ob tb fo rv ro tk ov sh tu rk cb rlo rhi rl rg tf kn tl th tv) := hD
      refine lv_aload_n hx hb dX7_mode_28 rfl (lv_at hl 0 rfl) ?_
      obtain ⟨u4, hu4, hres⟩ := mi_b hres
      refine call_V C0 (run_V C0 (rest := []) (kX7_forget l dC dI q cI cJ cZ (1 : Int32) wd sg lw hg fr to sn pl kd tg sa sb bn mt pa ob tb fo rv ro tk ov sh tu rk cb rlo rhi rl rg tf kn tl th tv   u4 hu4 _) (cwV 0 hts gX7_mode_X7_forget rfl rfl rfl (by decide +kernel) ⟨by decide, by decide⟩) hP hD (ci := 7) (q0 := 0) rfl rfl rfl hl.1 rfl (Nat.le_of_ble_eq_true rfl) dX7_mode_29) hD hS (fun H locs hP hD hS => ?_)
      refine lv_iconst (v := (1 : Int32)) hx hb dX7_mode_32 (by decide) ?_
      obtain rfl := Option.some.inj hres
      exact ret_I (r := (1 : Int32)) C0 rfl hP hD hS dX7_mode_33
  · replace hres := mi_n c_1 hres
    refine lv_iload_n hx hb dX7_mode_4 rfl (lv_at hl 1 rfl) ?_
    refine lv_iconst (v := (1 : Int32)) hx hb dX7_mode_5 (by decide) ?_
    refine lv_icmp_eq (tgt := 11) hx hb dX7_mode_6 (by decide) (fun c_5 => ?_) (fun c_5 => ?_)
    · replace hres := mi_p c_5 hres
      refine lv_aload_n hx hb dX7_mode_11 rfl (lv_at hl 0 rfl) ?_
      refine va_get (D := (dC, dI)) (ci := 7) (v := .ref (q 1)) (C := RX7) (T := TX7) (N := 7) hx hb hts hwX7_mode_RX7 hown hK hP 0 rfl rfl 0 (by decide) (hts _ mwX7_mode_0) (fun _ h9 => h9) rfl dX7_mode_12 ?_
      refine lv_iload_n hx hb dX7_mode_15 rfl (lv_at hl 1 rfl) ?_
      refine lv_iconst (v := (1 : Int32)) hx hb dX7_mode_16 (by decide) ?_
      refine lv_icmp_ne (tgt := 24) hx hb dX7_mode_17 (by decide) (fun c_6 => ?_) (fun c_6 => ?_)
      · replace hres := mi_n c_6 hres
        refine lv_iconst (v := (0 : Int32)) hx hb dX7_mode_24 (by decide) ?_
        refine va_put (D := (dC, dI)) (ci := 1) (v := .int (0 : Int32)) (ty := .boolean) (C := RX1) (T := TX1) (N := 5) hx hb hts hwX7_mode_RX1 tyX1 tyX1_ok nmX1 hown hK hP hD hS 1 rfl rfl 4 (by decide) (hts _ mwX7_mode_1) (fun _ h9 => h9) rfl (by decide +kernel) rfl rfl (Nat.le_of_ble_eq_true rfl) dX7_mode_25 (fun H locs hP hD hS => ?_)
        have hP : va_P (dC, dI) vwCl (wC q cI cJ cZ (0 : Int32) wd sg lw hg fr to sn pl kd tg sa sb bn mt pa ob tb fo rv ro tk ov sh tu rk cb rlo rhi rl rg tf kn tl th tv) H := hP
        have hD : va_D A (wC q cI cJ cZ (0 : Int32) wd sg lw hg fr to sn pl kd tg sa sb bn mt pa ob tb fo rv ro tk ov sh tu rk cb rlo rhi rl rg tf kn tl th tv) := hD
        refine lv_aload_n hx hb dX7_mode_28 rfl (lv_at hl 0 rfl) ?_
        obtain ⟨u7, hu7, hres⟩ := mi_b hres
        refine call_V C0 (run_V C0 (rest := []) (kX7_forget l dC dI q cI cJ cZ (0 : Int32) wd sg lw hg fr to sn pl kd tg sa sb bn mt pa ob tb fo rv ro tk ov sh tu rk cb rlo rhi rl rg tf kn tl th tv   u7 hu7 _) (cwV 0 hts gX7_mode_X7_forget rfl rfl rfl (by decide +kernel) ⟨by decide, by decide⟩) hP hD (ci := 7) (q0 := 0) rfl rfl rfl hl.1 rfl (Nat.le_of_ble_eq_true rfl) dX7_mode_29) hD hS (fun H locs hP hD hS => ?_)
        refine lv_iconst (v := (1 : Int32)) hx hb dX7_mode_32 (by decide) ?_
        obtain rfl := Option.some.inj hres
        exact ret_I (r := (1 : Int32)) C0 rfl hP hD hS dX7_mode_33
      · replace hres := mi_p c_6 hres
        refine lv_iconst (v := (1 : Int32)) hx hb dX7_mode_20 (by decide) ?_
        refine lv_goto (tgt := 25) hx hb dX7_mode_21 (by decide) ?_
        refine va_put (D := (dC, dI)) (ci := 1) (v := .int (1 : Int32)) (ty := .boolean) (C := RX1) (T := TX1) (N := 5) hx hb hts hwX7_mode_RX1 tyX1 tyX1_ok nmX1 hown hK hP hD hS 1 rfl rfl 4 (by decide) (hts _ mwX7_mode_1) (fun _ h9 => h9) rfl (by decide +kernel) rfl rfl (Nat.le_of_ble_eq_true rfl) dX7_mode_25 (fun H locs hP hD hS => ?_)
        have hP : va_P (dC, dI) vwCl (wC q cI cJ cZ (1 : Int32) wd sg lw hg fr to sn pl kd tg sa sb bn mt pa ob tb fo rv ro tk ov sh tu rk cb rlo rhi rl rg tf kn tl th tv) H := hP
        have hD : va_D A (wC q cI cJ cZ (1 : Int32) wd sg lw hg fr to sn pl kd tg sa sb bn mt pa ob tb fo rv ro tk ov sh tu rk cb rlo rhi rl rg tf kn tl th tv) := hD
        refine lv_aload_n hx hb dX7_mode_28 rfl (lv_at hl 0 rfl) ?_
        obtain ⟨u8, hu8, hres⟩ := mi_b hres
        refine call_V C0 (run_V C0 (rest := []) (kX7_forget l dC dI q cI cJ cZ (1 : Int32) wd sg lw hg fr to sn pl kd tg sa sb bn mt pa ob tb fo rv ro tk ov sh tu rk cb rlo rhi rl rg tf kn tl th tv   u8 hu8 _) (cwV 0 hts gX7_mode_X7_forget rfl rfl rfl (by decide +kernel) ⟨by decide, by decide⟩) hP hD (ci := 7) (q0 := 0) rfl rfl rfl hl.1 rfl (Nat.le_of_ble_eq_true rfl) dX7_mode_29) hD hS (fun H locs hP hD hS => ?_)
        refine lv_iconst (v := (1 : Int32)) hx hb dX7_mode_32 (by decide) ?_
        obtain rfl := Option.some.inj hres
        exact ret_I (r := (1 : Int32)) C0 rfl hP hD hS dX7_mode_33
    · replace hres := mi_n c_5 hres
      refine lv_iconst (v := (0 : Int32)) hx hb dX7_mode_9 (by decide) ?_
      obtain rfl := Option.some.inj hres
      exact ret_I (r := (0 : Int32)) C0 rfl hP hD hS dX7_mode_10
/-! ### SumsOver.run(III)I -/
theorem mwX7_run_0 : (.constant RX7 113 (-2147483648) : Cond) ∈ wsX7_run := by decide +kernel
set_option maxRecDepth 20000 in
theorem hwX7_run_RX7 : ∀ w ∈ u_ws RX7 TX7 7, w ∈ wsX7_run := by decide +kernel
theorem mwX7_run_1 : (.fieldLink RX7 19 "SumsOver" "inputs" "LSumsOver$Inputs;" : Cond) ∈ wsX7_run := by decide +kernel
theorem mwX7_run_2 : (.fieldLink RX7 35 "SumsOver" "runner" "LSumsOver$Runner;" : Cond) ∈ wsX7_run := by decide +kernel
set_option maxRecDepth 20000 in
theorem hwX7_run_RX3 : ∀ w ∈ u_ws RX3 TX3 6, w ∈ wsX7_run := by decide +kernel
theorem mwX7_run_3 : (.fieldLink RX7 118 "SumsOver$Runner" "values" "[J" : Cond) ∈ wsX7_run := by decide +kernel
def rmX7_run : Room := { frames := 5, cells := 0, slots := 0, locals := 127 }
set_option maxHeartbeats 4000000 in
set_option maxRecDepth 100000 in
theorem kX7_run (l : Launch) (dC : Nat → ClassId) (dI : Nat → Nat → Nat) (q : Nat → Nat) (cI cJ cZ : ClassId) (nr : Int32) (wd : Nat → Int32) (sg : Nat → Int32) (lw : Nat → Int64) (hg : Nat → Int64) (fr : Nat → Int32) (to : Nat → Int32) (sn : Int32) (pl : Int32) (kd : Nat → Int32) (tg : Nat → Int32) (sa : Nat → Int32) (sb : Nat → Int32) (bn : Nat → Int32) (mt : Nat → Int32) (pa : Nat → Int32) (ob : Int32) (tb : Int32) (fo : Int32) (rv : Nat → Int64) (ro : Int32) (tk : Int32) (ov : Nat → Int32) (sh : Nat → Int32) (tu : Nat → Int32) (rk : Int32) (cb : Int32) (rlo : Int64) (rhi : Int64) (rl : Nat → Int64) (rg : Nat → Int64) (tf : Int32) (kn : Int32) (tl : Nat → Int64) (th : Nat → Int64) (tv : Nat → Int64) (x1 : Int32) (x2 : Int32) (x3 : Int32) (RES : Int32 × (Int32) × (Int32) × (Int32) × (Nat → Int64)) (hres : mX7_run nr wd sg lw hg fr to pl kd tg sa sb bn pa ob tb fo rv x1 x2 x3 = some RES) : CtI l yX7_run wsX7_run rmX7_run (dC, dI) (ty3 cI cJ cZ) (wC q cI cJ cZ nr wd sg lw hg fr to sn pl kd tg sa sb bn mt pa ob tb fo rv ro tk ov sh tu rk cb rlo rhi rl rg tf kn tl th tv) [.ref (q 0), .int x1, .int x2, .int x3] RES.1 (wC q cI cJ cZ nr wd sg lw hg fr to sn pl kd tg sa sb bn mt pa RES.2.1 RES.2.2.1 RES.2.2.2.1 RES.2.2.2.2 ro tk ov sh tu rk cb rlo rhi rl rg tf kn tl th tv) := by
  intro sz
  refine ct_entry (cc := cX7_run) (maxL := 4) (ret := some .int) (own := RX7) (by decide) rfl rfl (Nat.le_of_ble_eq_true rfl) (ll := [(0, .ref (q 0)), (1, .int x1), (2, .int x2), (3, .int x3)]) rfl ?_
  intro p e s m args below meth c hsz C0 _ hP hD ls hl
  have C1 := C0
  obtain ⟨hx, hb, hr, hml, hown, hts, hlocks, hN, hK, hA⟩ := C1
  have hS : va_S (va_A (wC q cI cJ cZ nr wd sg lw hg fr to sn pl kd tg sa sb bn mt pa ob tb fo rv ro tk ov sh tu rk cb rlo rhi rl rg tf kn tl th tv) sz) s.heap s.heap [] := va_S.rf
  generalize va_A (wC q cI cJ cZ nr wd sg lw hg fr to sn pl kd tg sa sb bn mt pa ob tb fo rv ro tk ov sh tu rk cb rlo rhi rl rg tf kn tl th tv) sz = A at C0 hD hA hS ⊢
  show W p l e rmX7_run s m args below meth c s.heap [] 0 0 (QI below args s A (dC, dI) (ty3 cI cJ cZ) RES.1 (wC q cI cJ cZ nr wd sg lw hg fr to sn pl kd tg sa sb bn mt pa RES.2.1 RES.2.2.1 RES.2.2.2.1 RES.2.2.2.2 ro tk ov sh tu rk cb rlo rhi rl rg tf kn tl th tv)) (F0 m 0 ls [])
  unfold mX7_run at hres
  refine lv_iload_n hx hb dX7_run_0 rfl (lv_at hl 3 rfl) ?_
  obtain ⟨u1, hu1, hres⟩ := mi_b hres
  refine call_I C0 (run_S C0 (rest := []) (kX7_isName l (dC, dI) (ty3 cI cJ cZ) (wC q cI cJ cZ nr wd sg lw hg fr to sn pl kd tg sa sb bn mt pa ob tb fo rv ro tk ov sh tu rk cb rlo rhi rl rg tf kn tl th tv) x3 u1 hu1 _) (va_cwS 1 hts gX7_run_X7_isName rfl rfl rfl (by decide +kernel) ⟨by decide, by decide⟩) hP hD rfl hl.1 rfl (Nat.le_of_ble_eq_true rfl) dX7_run_1) hD hS (fun H locs hP hD hS => ?_)
  refine lv_if_eq (tgt := 19) hx hb dX7_run_4 (by decide) (fun c_2 => ?_) (fun c_2 => ?_)
  · replace hres := mi_p c_2 hres
    refine lv_ldc (own := RX7) (v := (-2147483648 : Int32)) hx hb hown (hts _ mwX7_run_0) dX7_run_19 ?_
    obtain rfl := Option.some.inj hres
    exact ret_I (r := (-2147483648 : Int32)) C0 rfl hP hD hS dX7_run_21
  · replace hres := mi_n c_2 hres
    refine lv_aload_n hx hb dX7_run_7 rfl (lv_at hl 0 rfl) ?_
    refine va_get (D := (dC, dI)) (ci := 7) (v := .ref (q 6)) (C := RX7) (T := TX7) (N := 7) hx hb hts hwX7_run_RX7 hown hK hP 0 rfl rfl 1 (by decide) (hts _ mwX7_run_1) (fun _ h9 => h9) rfl dX7_run_8 ?_
    refine lv_iload_n hx hb dX7_run_11 rfl (lv_at hl 1 rfl) ?_
    refine lv_iload_n hx hb dX7_run_12 rfl (lv_at hl 2 rfl) ?_
    obtain ⟨u3, hu3, hres⟩ := mi_b hres
    refine call_I C0 (run_V C0 (rest := []) (kX0_hold l dC dI q cI cJ cZ nr wd sg lw hg fr to sn pl kd tg sa sb bn mt pa ob tb fo rv ro tk ov sh tu rk cb rlo rhi rl rg tf kn tl th tv  x1 x2 u3 hu3 _) (cwV 2 hts gX7_run_X0_hold rfl rfl rfl (by decide +kernel) ⟨by decide, by decide⟩) hP hD (ci := 0) (q0 := 6) rfl rfl rfl hl.1 rfl (Nat.le_of_ble_eq_true rfl) dX7_run_13) hD hS (fun H locs hP hD hS => ?_)
    refine lv_if_ne (tgt := 22) hx hb dX7_run_16 (by decide) (fun c_4 => ?_) (fun c_4 => ?_)
    · replace hres := mi_n c_4 hres
      refine lv_aload_n hx hb dX7_run_22 rfl (lv_at hl 0 rfl) ?_
      refine va_get (D := (dC, dI)) (ci := 7) (v := .ref (q 17)) (C := RX7) (T := TX7) (N := 7) hx hb hts hwX7_run_RX7 hown hK hP 0 rfl rfl 3 (by decide) (hts _ mwX7_run_2) (fun _ h9 => h9) rfl dX7_run_23 ?_
      refine lv_iload_n hx hb dX7_run_26 rfl (lv_at hl 1 rfl) ?_
      refine lv_iload_n hx hb dX7_run_27 rfl (lv_at hl 2 rfl) ?_
      obtain ⟨u5, hu5, hres⟩ := mi_b hres
      refine call_V C0 (run_V C0 (rest := []) (kX3_follow l dC dI q cI cJ cZ nr wd sg lw hg fr to sn pl kd tg sa sb bn mt pa ob tb fo rv ro tk ov sh tu rk cb rlo rhi rl rg tf kn tl th tv  x1 x2 u5 hu5 _) (cwV 2 hts gX7_run_X3_follow rfl rfl rfl (by decide +kernel) ⟨by decide, by decide⟩) hP hD (ci := 3) (q0 := 17) rfl rfl rfl hl.1 rfl (Nat.le_of_ble_eq_true rfl) dX7_run_28) hD hS (fun H locs hP hD hS => ?_)
      refine lv_aload_n hx hb dX7_run_31 rfl (lv_at hl 0 rfl) ?_
      refine va_get (D := (dC, dI)) (ci := 7) (v := .ref (q 17)) (C := RX7) (T := TX7) (N := 7) hx hb hts hwX7_run_RX7 hown hK hP 0 rfl rfl 3 (by decide) (hts _ mwX7_run_2) (fun _ h9 => h9) rfl dX7_run_32 ?_
      refine va_get (D := (dC, dI)) (ci := 3) (v := .ref (q 18)) (C := RX3) (T := TX3) (N := 6) hx hb hts hwX7_run_RX3 hown hK hP 17 rfl rfl 2 (by decide) (hts _ mwX7_run_3) (fun _ h9 => h9) rfl dX7_run_35 ?_
      refine lv_iload_n hx hb dX7_run_38 rfl (lv_at hl 3 rfl) ?_
      obtain ⟨g_6, hres⟩ := mi_g hres
      refine va_lald (D := (dC, dI)) (cl := vwCl) hx hb hK hP 18 1 rfl rfl g_6 dX7_run_39 ?_
      refine lv_l2i (v := ((u5.2.2.2 (Int32.toNatClampNeg x3))).toInt32) hx hb dX7_run_40 rfl ?_
      obtain rfl := Option.some.inj hres
      exact ret_I (r := (((u5.2.2.2 (Int32.toNatClampNeg x3))).toInt32)) C0 rfl hP hD hS dX7_run_41
    · replace hres := mi_p c_4 hres
      refine lv_ldc (own := RX7) (v := (-2147483648 : Int32)) hx hb hown (hts _ mwX7_run_0) dX7_run_19 ?_
      obtain rfl := Option.some.inj hres
      exact ret_I (r := (-2147483648 : Int32)) C0 rfl hP hD hS dX7_run_21
/-! ### SumsOver.first(II)I -/
set_option maxRecDepth 20000 in
theorem hwX7_first_RX7 : ∀ w ∈ u_ws RX7 TX7 7, w ∈ wsX7_first := by decide +kernel
theorem mwX7_first_0 : (.fieldLink RX7 19 "SumsOver" "inputs" "LSumsOver$Inputs;" : Cond) ∈ wsX7_first := by decide +kernel
theorem mwX7_first_1 : (.fieldLink RX7 35 "SumsOver" "runner" "LSumsOver$Runner;" : Cond) ∈ wsX7_first := by decide +kernel
set_option maxRecDepth 20000 in
theorem hwX7_first_RX3 : ∀ w ∈ u_ws RX3 TX3 6, w ∈ wsX7_first := by decide +kernel
theorem mwX7_first_2 : (.fieldLink RX7 122 "SumsOver$Runner" "firstOver" "I" : Cond) ∈ wsX7_first := by decide +kernel
def rmX7_first : Room := { frames := 5, cells := 0, slots := 0, locals := 127 }
set_option maxHeartbeats 4000000 in
set_option maxRecDepth 100000 in
theorem kX7_first (l : Launch) (dC : Nat → ClassId) (dI : Nat → Nat → Nat) (q : Nat → Nat) (cI cJ cZ : ClassId) (nr : Int32) (wd : Nat → Int32) (sg : Nat → Int32) (lw : Nat → Int64) (hg : Nat → Int64) (fr : Nat → Int32) (to : Nat → Int32) (sn : Int32) (pl : Int32) (kd : Nat → Int32) (tg : Nat → Int32) (sa : Nat → Int32) (sb : Nat → Int32) (bn : Nat → Int32) (mt : Nat → Int32) (pa : Nat → Int32) (ob : Int32) (tb : Int32) (fo : Int32) (rv : Nat → Int64) (ro : Int32) (tk : Int32) (ov : Nat → Int32) (sh : Nat → Int32) (tu : Nat → Int32) (rk : Int32) (cb : Int32) (rlo : Int64) (rhi : Int64) (rl : Nat → Int64) (rg : Nat → Int64) (tf : Int32) (kn : Int32) (tl : Nat → Int64) (th : Nat → Int64) (tv : Nat → Int64) (x1 : Int32) (x2 : Int32) (RES : Int32 × (Int32) × (Int32) × (Int32) × (Nat → Int64)) (hres : mX7_first nr wd sg lw hg fr to pl kd tg sa sb bn pa ob tb fo rv x1 x2 = some RES) : CtI l yX7_first wsX7_first rmX7_first (dC, dI) (ty3 cI cJ cZ) (wC q cI cJ cZ nr wd sg lw hg fr to sn pl kd tg sa sb bn mt pa ob tb fo rv ro tk ov sh tu rk cb rlo rhi rl rg tf kn tl th tv) [.ref (q 0), .int x1, .int x2] RES.1 (wC q cI cJ cZ nr wd sg lw hg fr to sn pl kd tg sa sb bn mt pa RES.2.1 RES.2.2.1 RES.2.2.2.1 RES.2.2.2.2 ro tk ov sh tu rk cb rlo rhi rl rg tf kn tl th tv) := by
  intro sz
  refine ct_entry (cc := cX7_first) (maxL := 3) (ret := some .int) (own := RX7) (by decide) rfl rfl (Nat.le_of_ble_eq_true rfl) (ll := [(0, .ref (q 0)), (1, .int x1), (2, .int x2)]) rfl ?_
  intro p e s m args below meth c hsz C0 _ hP hD ls hl
  have C1 := C0
  obtain ⟨hx, hb, hr, hml, hown, hts, hlocks, hN, hK, hA⟩ := C1
  have hS : va_S (va_A (wC q cI cJ cZ nr wd sg lw hg fr to sn pl kd tg sa sb bn mt pa ob tb fo rv ro tk ov sh tu rk cb rlo rhi rl rg tf kn tl th tv) sz) s.heap s.heap [] := va_S.rf
  generalize va_A (wC q cI cJ cZ nr wd sg lw hg fr to sn pl kd tg sa sb bn mt pa ob tb fo rv ro tk ov sh tu rk cb rlo rhi rl rg tf kn tl th tv) sz = A at C0 hD hA hS ⊢
  show W p l e rmX7_first s m args below meth c s.heap [] 0 0 (QI below args s A (dC, dI) (ty3 cI cJ cZ) RES.1 (wC q cI cJ cZ nr wd sg lw hg fr to sn pl kd tg sa sb bn mt pa RES.2.1 RES.2.2.1 RES.2.2.2.1 RES.2.2.2.2 ro tk ov sh tu rk cb rlo rhi rl rg tf kn tl th tv)) (F0 m 0 ls [])
  unfold mX7_first at hres
  refine lv_aload_n hx hb dX7_first_0 rfl (lv_at hl 0 rfl) ?_
  refine va_get (D := (dC, dI)) (ci := 7) (v := .ref (q 6)) (C := RX7) (T := TX7) (N := 7) hx hb hts hwX7_first_RX7 hown hK hP 0 rfl rfl 1 (by decide) (hts _ mwX7_first_0) (fun _ h9 => h9) rfl dX7_first_1 ?_
  refine lv_iload_n hx hb dX7_first_4 rfl (lv_at hl 1 rfl) ?_
  refine lv_iload_n hx hb dX7_first_5 rfl (lv_at hl 2 rfl) ?_
  obtain ⟨u1, hu1, hres⟩ := mi_b hres
  refine call_I C0 (run_V C0 (rest := []) (kX0_hold l dC dI q cI cJ cZ nr wd sg lw hg fr to sn pl kd tg sa sb bn mt pa ob tb fo rv ro tk ov sh tu rk cb rlo rhi rl rg tf kn tl th tv  x1 x2 u1 hu1 _) (cwV 2 hts gX7_first_X0_hold rfl rfl rfl (by decide +kernel) ⟨by decide, by decide⟩) hP hD (ci := 0) (q0 := 6) rfl rfl rfl hl.1 rfl (Nat.le_of_ble_eq_true rfl) dX7_first_6) hD hS (fun H locs hP hD hS => ?_)
  refine lv_if_ne (tgt := 14) hx hb dX7_first_9 (by decide) (fun c_2 => ?_) (fun c_2 => ?_)
  · replace hres := mi_n c_2 hres
    refine lv_aload_n hx hb dX7_first_14 rfl (lv_at hl 0 rfl) ?_
    refine va_get (D := (dC, dI)) (ci := 7) (v := .ref (q 17)) (C := RX7) (T := TX7) (N := 7) hx hb hts hwX7_first_RX7 hown hK hP 0 rfl rfl 3 (by decide) (hts _ mwX7_first_1) (fun _ h9 => h9) rfl dX7_first_15 ?_
    refine lv_iload_n hx hb dX7_first_18 rfl (lv_at hl 1 rfl) ?_
    refine lv_iload_n hx hb dX7_first_19 rfl (lv_at hl 2 rfl) ?_
    obtain ⟨u3, hu3, hres⟩ := mi_b hres
    refine call_V C0 (run_V C0 (rest := []) (kX3_follow l dC dI q cI cJ cZ nr wd sg lw hg fr to sn pl kd tg sa sb bn mt pa ob tb fo rv ro tk ov sh tu rk cb rlo rhi rl rg tf kn tl th tv  x1 x2 u3 hu3 _) (cwV 2 hts gX7_first_X3_follow rfl rfl rfl (by decide +kernel) ⟨by decide, by decide⟩) hP hD (ci := 3) (q0 := 17) rfl rfl rfl hl.1 rfl (Nat.le_of_ble_eq_true rfl) dX7_first_20) hD hS (fun H locs hP hD hS => ?_)
    refine lv_aload_n hx hb dX7_first_23 rfl (lv_at hl 0 rfl) ?_
    refine va_get (D := (dC, dI)) (ci := 7) (v := .ref (q 17)) (C := RX7) (T := TX7) (N := 7) hx hb hts hwX7_first_RX7 hown hK hP 0 rfl rfl 3 (by decide) (hts _ mwX7_first_1) (fun _ h9 => h9) rfl dX7_first_24 ?_
    refine va_get (D := (dC, dI)) (ci := 3) (v := .int u3.2.2.1) (C := RX3) (T := TX3) (N := 6) hx hb hts hwX7_first_RX3 hown hK hP 17 rfl rfl 5 (by decide) (hts _ mwX7_first_2) (fun _ h9 => h9) rfl dX7_first_27 ?_
    obtain rfl := Option.some.inj hres
    exact ret_I (r := u3.2.2.1) C0 rfl hP hD hS dX7_first_30
  · replace hres := mi_p c_2 hres
    refine lv_iconst (v := (-1 : Int32)) hx hb dX7_first_12 (by decide) ?_
    obtain rfl := Option.some.inj hres
    exact ret_I (r := (-1 : Int32)) C0 rfl hP hD hS dX7_first_13
/-! ### SumsOver.isStep(I)Z -/
set_option maxRecDepth 20000 in
theorem hwX7_isStep_RX7 : ∀ w ∈ u_ws RX7 TX7 7, w ∈ wsX7_isStep := by decide +kernel
theorem mwX7_isStep_0 : (.fieldLink RX7 26 "SumsOver" "steps" "LSumsOver$Steps;" : Cond) ∈ wsX7_isStep := by decide +kernel
set_option maxRecDepth 20000 in
theorem hwX7_isStep_RX4 : ∀ w ∈ u_ws RX4 TX4 9, w ∈ wsX7_isStep := by decide +kernel
theorem mwX7_isStep_1 : (.fieldLink RX7 87 "SumsOver$Steps" "size" "I" : Cond) ∈ wsX7_isStep := by decide +kernel
def rmX7_isStep : Room := { frames := 0, cells := 0, slots := 0, locals := 0 }
set_option maxHeartbeats 4000000 in
set_option maxRecDepth 100000 in
theorem kX7_isStep (l : Launch) (dC : Nat → ClassId) (dI : Nat → Nat → Nat) (q : Nat → Nat) (cI cJ cZ : ClassId) (nr : Int32) (wd : Nat → Int32) (sg : Nat → Int32) (lw : Nat → Int64) (hg : Nat → Int64) (fr : Nat → Int32) (to : Nat → Int32) (sn : Int32) (pl : Int32) (kd : Nat → Int32) (tg : Nat → Int32) (sa : Nat → Int32) (sb : Nat → Int32) (bn : Nat → Int32) (mt : Nat → Int32) (pa : Nat → Int32) (ob : Int32) (tb : Int32) (fo : Int32) (rv : Nat → Int64) (ro : Int32) (tk : Int32) (ov : Nat → Int32) (sh : Nat → Int32) (tu : Nat → Int32) (rk : Int32) (cb : Int32) (rlo : Int64) (rhi : Int64) (rl : Nat → Int64) (rg : Nat → Int64) (tf : Int32) (kn : Int32) (tl : Nat → Int64) (th : Nat → Int64) (tv : Nat → Int64) (x1 : Int32) (RES : Int32) (hres : mX7_isStep sn x1 = some RES) : CtI l yX7_isStep wsX7_isStep rmX7_isStep (dC, dI) (ty3 cI cJ cZ) (wC q cI cJ cZ nr wd sg lw hg fr to sn pl kd tg sa sb bn mt pa ob tb fo rv ro tk ov sh tu rk cb rlo rhi rl rg tf kn tl th tv) [.ref (q 0), .int x1] RES (wC q cI cJ cZ nr wd sg lw hg fr to sn pl kd tg sa sb bn mt pa ob tb fo rv ro tk ov sh tu rk cb rlo rhi rl rg tf kn tl th tv) := by
  intro sz
  refine ct_entry (cc := cX7_isStep) (maxL := 2) (ret := some .boolean) (own := RX7) (by decide) rfl rfl (Nat.le_of_ble_eq_true rfl) (ll := [(0, .ref (q 0)), (1, .int x1)]) rfl ?_
  intro p e s m args below meth c hsz C0 _ hP hD ls hl
  have C1 := C0
  obtain ⟨hx, hb, hr, hml, hown, hts, hlocks, hN, hK, hA⟩ := C1
  have hS : va_S (va_A (wC q cI cJ cZ nr wd sg lw hg fr to sn pl kd tg sa sb bn mt pa ob tb fo rv ro tk ov sh tu rk cb rlo rhi rl rg tf kn tl th tv) sz) s.heap s.heap [] := va_S.rf
  generalize va_A (wC q cI cJ cZ nr wd sg lw hg fr to sn pl kd tg sa sb bn mt pa ob tb fo rv ro tk ov sh tu rk cb rlo rhi rl rg tf kn tl th tv) sz = A at C0 hD hA hS ⊢
  show W p l e rmX7_isStep s m args below meth c s.heap [] 0 0 (QI below args s A (dC, dI) (ty3 cI cJ cZ) RES (wC q cI cJ cZ nr wd sg lw hg fr to sn pl kd tg sa sb bn mt pa ob tb fo rv ro tk ov sh tu rk cb rlo rhi rl rg tf kn tl th tv)) (F0 m 0 ls [])
  unfold mX7_isStep at hres
  refine lv_iload_n hx hb dX7_isStep_0 rfl (lv_at hl 1 rfl) ?_
  refine lv_if_lt (tgt := 19) hx hb dX7_isStep_1 (by decide) (fun c_1 => ?_) (fun c_1 => ?_)
  · replace hres := mi_p c_1 hres
    refine lv_iconst (v := (0 : Int32)) hx hb dX7_isStep_19 (by decide) ?_
    obtain rfl := Option.some.inj hres
    exact ret_I (r := (0 : Int32)) C0 rfl hP hD hS dX7_isStep_20
  · replace hres := mi_n c_1 hres
    refine lv_iload_n hx hb dX7_isStep_4 rfl (lv_at hl 1 rfl) ?_
    refine lv_aload_n hx hb dX7_isStep_5 rfl (lv_at hl 0 rfl) ?_
    refine va_get (D := (dC, dI)) (ci := 7) (v := .ref (q 9)) (C := RX7) (T := TX7) (N := 7) hx hb hts hwX7_isStep_RX7 hown hK hP 0 rfl rfl 2 (by decide) (hts _ mwX7_isStep_0) (fun _ h9 => h9) rfl dX7_isStep_6 ?_
    refine va_get (D := (dC, dI)) (ci := 4) (v := .int sn) (C := RX4) (T := TX4) (N := 9) hx hb hts hwX7_isStep_RX4 hown hK hP 9 rfl rfl 6 (by decide) (hts _ mwX7_isStep_1) (fun _ h9 => h9) rfl dX7_isStep_9 ?_
    refine lv_icmp_ge (tgt := 19) hx hb dX7_isStep_12 (by decide) (fun c_2 => ?_) (fun c_2 => ?_)
    · replace hres := mi_p c_2 hres
      refine lv_iconst (v := (0 : Int32)) hx hb dX7_isStep_19 (by decide) ?_
      obtain rfl := Option.some.inj hres
      exact ret_I (r := (0 : Int32)) C0 rfl hP hD hS dX7_isStep_20
    · replace hres := mi_n c_2 hres
      refine lv_iconst (v := (1 : Int32)) hx hb dX7_isStep_15 (by decide) ?_
      refine lv_goto (tgt := 20) hx hb dX7_isStep_16 (by decide) ?_
      obtain rfl := Option.some.inj hres
      exact ret_I (r := (1 : Int32)) C0 rfl hP hD hS dX7_isStep_20
/-! ### SumsOver.judged(I)I -/
set_option maxRecDepth 20000 in
theorem hwX7_judged_RX7 : ∀ w ∈ u_ws RX7 TX7 7, w ∈ wsX7_judged := by decide +kernel
theorem mwX7_judged_0 : (.fieldLink RX7 53 "SumsOver" "reach" "LSumsOver$Reach;" : Cond) ∈ wsX7_judged := by decide +kernel
theorem mwX7_judged_1 : (.fieldLink RX7 44 "SumsOver" "tally" "LSumsOver$Tally;" : Cond) ∈ wsX7_judged := by decide +kernel
set_option maxRecDepth 20000 in
theorem hwX7_judged_RX5 : ∀ w ∈ u_ws RX5 TX5 7, w ∈ wsX7_judged := by decide +kernel
theorem mwX7_judged_2 : (.fieldLink RX7 136 "SumsOver$Tally" "over" "[I" : Cond) ∈ wsX7_judged := by decide +kernel
theorem mwX7_judged_3 : (.fieldLink RX7 19 "SumsOver" "inputs" "LSumsOver$Inputs;" : Cond) ∈ wsX7_judged := by decide +kernel
def rmX7_judged : Room := { frames := 1, cells := 0, slots := 0, locals := 21 }
set_option maxHeartbeats 4000000 in
set_option maxRecDepth 100000 in
theorem kX7_judged (l : Launch) (dC : Nat → ClassId) (dI : Nat → Nat → Nat) (q : Nat → Nat) (cI cJ cZ : ClassId) (nr : Int32) (wd : Nat → Int32) (sg : Nat → Int32) (lw : Nat → Int64) (hg : Nat → Int64) (fr : Nat → Int32) (to : Nat → Int32) (sn : Int32) (pl : Int32) (kd : Nat → Int32) (tg : Nat → Int32) (sa : Nat → Int32) (sb : Nat → Int32) (bn : Nat → Int32) (mt : Nat → Int32) (pa : Nat → Int32) (ob : Int32) (tb : Int32) (fo : Int32) (rv : Nat → Int64) (ro : Int32) (tk : Int32) (ov : Nat → Int32) (sh : Nat → Int32) (tu : Nat → Int32) (rk : Int32) (cb : Int32) (rlo : Int64) (rhi : Int64) (rl : Nat → Int64) (rg : Nat → Int64) (tf : Int32) (kn : Int32) (tl : Nat → Int64) (th : Nat → Int64) (tv : Nat → Int64) (x1 : Int32) (RES : Int32) (hres : mX7_judged fr to ov cb x1 = some RES) : CtI l yX7_judged wsX7_judged rmX7_judged (dC, dI) (ty3 cI cJ cZ) (wC q cI cJ cZ nr wd sg lw hg fr to sn pl kd tg sa sb bn mt pa ob tb fo rv ro tk ov sh tu rk cb rlo rhi rl rg tf kn tl th tv) [.ref (q 0), .int x1] RES (wC q cI cJ cZ nr wd sg lw hg fr to sn pl kd tg sa sb bn mt pa ob tb fo rv ro tk ov sh tu rk cb rlo rhi rl rg tf kn tl th tv) := by
  intro sz
  refine ct_entry (cc := cX7_judged) (maxL := 2) (ret := some .int) (own := RX7) (by decide) rfl rfl (Nat.le_of_ble_eq_true rfl) (ll := [(0, .ref (q 0)), (1, .int x1)]) rfl ?_
  intro p e s m args below meth c hsz C0 _ hP hD ls hl
  have C1 := C0
  obtain ⟨hx, hb, hr, hml, hown, hts, hlocks, hN, hK, hA⟩ := C1
  have hS : va_S (va_A (wC q cI cJ cZ nr wd sg lw hg fr to sn pl kd tg sa sb bn mt pa ob tb fo rv ro tk ov sh tu rk cb rlo rhi rl rg tf kn tl th tv) sz) s.heap s.heap [] := va_S.rf
  generalize va_A (wC q cI cJ cZ nr wd sg lw hg fr to sn pl kd tg sa sb bn mt pa ob tb fo rv ro tk ov sh tu rk cb rlo rhi rl rg tf kn tl th tv) sz = A at C0 hD hA hS ⊢
  show W p l e rmX7_judged s m args below meth c s.heap [] 0 0 (QI below args s A (dC, dI) (ty3 cI cJ cZ) RES (wC q cI cJ cZ nr wd sg lw hg fr to sn pl kd tg sa sb bn mt pa ob tb fo rv ro tk ov sh tu rk cb rlo rhi rl rg tf kn tl th tv)) (F0 m 0 ls [])
  unfold mX7_judged at hres
  refine lv_aload_n hx hb dX7_judged_0 rfl (lv_at hl 0 rfl) ?_
  refine va_get (D := (dC, dI)) (ci := 7) (v := .ref (q 23)) (C := RX7) (T := TX7) (N := 7) hx hb hts hwX7_judged_RX7 hown hK hP 0 rfl rfl 5 (by decide) (hts _ mwX7_judged_0) (fun _ h9 => h9) rfl dX7_judged_1 ?_
  refine lv_iload_n hx hb dX7_judged_4 rfl (lv_at hl 1 rfl) ?_
  obtain ⟨u1, hu1, hres⟩ := mi_b hres
  refine call_I C0 (run_V C0 (rest := []) (kX2_couldGoOver l dC dI q cI cJ cZ nr wd sg lw hg fr to sn pl kd tg sa sb bn mt pa ob tb fo rv ro tk ov sh tu rk cb rlo rhi rl rg tf kn tl th tv  x1 u1 hu1 _) (cwV 1 hts gX7_judged_X2_couldGoOver rfl rfl rfl (by decide +kernel) ⟨by decide, by decide⟩) hP hD (ci := 2) (q0 := 23) rfl rfl rfl hl.1 rfl (Nat.le_of_ble_eq_true rfl) dX7_judged_5) hD hS (fun H locs hP hD hS => ?_)
  refine lv_if_ne (tgt := 13) hx hb dX7_judged_8 (by decide) (fun c_2 => ?_) (fun c_2 => ?_)
  · replace hres := mi_n c_2 hres
    refine lv_aload_n hx hb dX7_judged_13 rfl (lv_at hl 0 rfl) ?_
    refine va_get (D := (dC, dI)) (ci := 7) (v := .ref (q 19)) (C := RX7) (T := TX7) (N := 7) hx hb hts hwX7_judged_RX7 hown hK hP 0 rfl rfl 4 (by decide) (hts _ mwX7_judged_1) (fun _ h9 => h9) rfl dX7_judged_14 ?_
    refine va_get (D := (dC, dI)) (ci := 5) (v := .ref (q 20)) (C := RX5) (T := TX5) (N := 7) hx hb hts hwX7_judged_RX5 hown hK hP 19 rfl rfl 0 (by decide) (hts _ mwX7_judged_2) (fun _ h9 => h9) rfl dX7_judged_17 ?_
    refine lv_iload_n hx hb dX7_judged_20 rfl (lv_at hl 1 rfl) ?_
    obtain ⟨g_3, hres⟩ := mi_g hres
    refine va_iald (D := (dC, dI)) (cl := vwCl) hx hb hK hP 20 0 rfl rfl g_3 dX7_judged_21 ?_
    refine lv_if_ne (tgt := 27) hx hb dX7_judged_22 (by decide) (fun c_4 => ?_) (fun c_4 => ?_)
    · replace hres := mi_n c_4 hres
      refine lv_aload_n hx hb dX7_judged_27 rfl (lv_at hl 0 rfl) ?_
      refine va_get (D := (dC, dI)) (ci := 7) (v := .ref (q 19)) (C := RX7) (T := TX7) (N := 7) hx hb hts hwX7_judged_RX7 hown hK hP 0 rfl rfl 4 (by decide) (hts _ mwX7_judged_1) (fun _ h9 => h9) rfl dX7_judged_28 ?_
      refine va_get (D := (dC, dI)) (ci := 5) (v := .ref (q 20)) (C := RX5) (T := TX5) (N := 7) hx hb hts hwX7_judged_RX5 hown hK hP 19 rfl rfl 0 (by decide) (hts _ mwX7_judged_2) (fun _ h9 => h9) rfl dX7_judged_31 ?_
      refine lv_iload_n hx hb dX7_judged_34 rfl (lv_at hl 1 rfl) ?_
      refine va_iald (D := (dC, dI)) (cl := vwCl) hx hb hK hP 20 0 rfl rfl g_3 dX7_judged_35 ?_
      refine lv_aload_n hx hb dX7_judged_36 rfl (lv_at hl 0 rfl) ?_
      refine va_get (D := (dC, dI)) (ci := 7) (v := .ref (q 6)) (C := RX7) (T := TX7) (N := 7) hx hb hts hwX7_judged_RX7 hown hK hP 0 rfl rfl 1 (by decide) (hts _ mwX7_judged_3) (fun _ h9 => h9) rfl dX7_judged_37 ?_
      obtain ⟨u5, hu5, hres⟩ := mi_b hres
      refine call_I C0 (run_V C0 (rest := [.int (ov (Int32.toNatClampNeg x1))]) (kX0_runs l dC dI q cI cJ cZ nr wd sg lw hg fr to sn pl kd tg sa sb bn mt pa ob tb fo rv ro tk ov sh tu rk cb rlo rhi rl rg tf kn tl th tv   u5 hu5 _) (cwV 0 hts gX7_judged_X0_runs rfl rfl rfl (by decide +kernel) ⟨by decide, by decide⟩) hP hD (ci := 0) (q0 := 6) rfl rfl rfl hl.1 rfl (Nat.le_of_ble_eq_true rfl) dX7_judged_40) hD hS (fun H locs hP hD hS => ?_)
      refine lv_icmp_ge (tgt := 50) hx hb dX7_judged_43 (by decide) (fun c_6 => ?_) (fun c_6 => ?_)
      · replace hres := mi_p c_6 hres
        refine lv_iconst (v := (3 : Int32)) hx hb dX7_judged_50 (by decide) ?_
        obtain rfl := Option.some.inj hres
        exact ret_I (r := (3 : Int32)) C0 rfl hP hD hS dX7_judged_51
      · replace hres := mi_n c_6 hres
        refine lv_iconst (v := (2 : Int32)) hx hb dX7_judged_46 (by decide) ?_
        refine lv_goto (tgt := 51) hx hb dX7_judged_47 (by decide) ?_
        obtain rfl := Option.some.inj hres
        exact ret_I (r := (2 : Int32)) C0 rfl hP hD hS dX7_judged_51
    · replace hres := mi_p c_4 hres
      refine lv_iconst (v := (1 : Int32)) hx hb dX7_judged_25 (by decide) ?_
      obtain rfl := Option.some.inj hres
      exact ret_I (r := (1 : Int32)) C0 rfl hP hD hS dX7_judged_26
  · replace hres := mi_p c_2 hres
    refine lv_iconst (v := (0 : Int32)) hx hb dX7_judged_11 (by decide) ?_
    obtain rfl := Option.some.inj hres
    exact ret_I (r := (0 : Int32)) C0 rfl hP hD hS dX7_judged_12
/-! ### SumsOver.judge(I)I -/
set_option maxRecDepth 20000 in
theorem hwX7_judge_RX7 : ∀ w ∈ u_ws RX7 TX7 7, w ∈ wsX7_judge := by decide +kernel
theorem mwX7_judge_0 : (.fieldLink RX7 53 "SumsOver" "reach" "LSumsOver$Reach;" : Cond) ∈ wsX7_judge := by decide +kernel
theorem mwX7_judge_1 : (.fieldLink RX7 44 "SumsOver" "tally" "LSumsOver$Tally;" : Cond) ∈ wsX7_judge := by decide +kernel
def rmX7_judge : Room := { frames := 6, cells := 0, slots := 0, locals := 149 }
set_option maxHeartbeats 4000000 in
set_option maxRecDepth 100000 in
theorem kX7_judge (l : Launch) (dC : Nat → ClassId) (dI : Nat → Nat → Nat) (q : Nat → Nat) (cI cJ cZ : ClassId) (nr : Int32) (wd : Nat → Int32) (sg : Nat → Int32) (lw : Nat → Int64) (hg : Nat → Int64) (fr : Nat → Int32) (to : Nat → Int32) (sn : Int32) (pl : Int32) (kd : Nat → Int32) (tg : Nat → Int32) (sa : Nat → Int32) (sb : Nat → Int32) (bn : Nat → Int32) (mt : Nat → Int32) (pa : Nat → Int32) (ob : Int32) (tb : Int32) (fo : Int32) (rv : Nat → Int64) (ro : Int32) (tk : Int32) (ov : Nat → Int32) (sh : Nat → Int32) (tu : Nat → Int32) (rk : Int32) (cb : Int32) (rlo : Int64) (rhi : Int64) (rl : Nat → Int64) (rg : Nat → Int64) (tf : Int32) (kn : Int32) (tl : Nat → Int64) (th : Nat → Int64) (tv : Nat → Int64) (x1 : Int32) (RES : Int32 × (Int32) × (Int32) × (Int32) × (Nat → Int64) × (Int32) × (Int32) × (Nat → Int32) × (Nat → Int32) × (Nat → Int32) × (Int32) × (Int32) × (Int64) × (Int64) × (Nat → Int64) × (Nat → Int64)) (hres : mX7_judge nr wd sg lw hg fr to sn pl kd tg sa sb bn pa ob tb fo rv ro tk ov sh tu rk cb rlo rhi rl rg x1 = some RES) : CtI l yX7_judge wsX7_judge rmX7_judge (dC, dI) (ty3 cI cJ cZ) (wC q cI cJ cZ nr wd sg lw hg fr to sn pl kd tg sa sb bn mt pa ob tb fo rv ro tk ov sh tu rk cb rlo rhi rl rg tf kn tl th tv) [.ref (q 0), .int x1] RES.1 (wC q cI cJ cZ nr wd sg lw hg fr to sn pl kd tg sa sb bn mt pa RES.2.1 RES.2.2.1 RES.2.2.2.1 RES.2.2.2.2.1 RES.2.2.2.2.2.1 RES.2.2.2.2.2.2.1 RES.2.2.2.2.2.2.2.1 RES.2.2.2.2.2.2.2.2.1 RES.2.2.2.2.2.2.2.2.2.1 RES.2.2.2.2.2.2.2.2.2.2.1 RES.2.2.2.2.2.2.2.2.2.2.2.1 RES.2.2.2.2.2.2.2.2.2.2.2.2.1 RES.2.2.2.2.2.2.2.2.2.2.2.2.2.1 RES.2.2.2.2.2.2.2.2.2.2.2.2.2.2.1 RES.2.2.2.2.2.2.2.2.2.2.2.2.2.2.2 tf kn tl th tv) := by
  intro sz
  refine ct_entry (cc := cX7_judge) (maxL := 2) (ret := some .int) (own := RX7) (by decide) rfl rfl (Nat.le_of_ble_eq_true rfl) (ll := [(0, .ref (q 0)), (1, .int x1)]) rfl ?_
  intro p e s m args below meth c hsz C0 _ hP hD ls hl
  have C1 := C0
  obtain ⟨hx, hb, hr, hml, hown, hts, hlocks, hN, hK, hA⟩ := C1
  have hS : va_S (va_A (wC q cI cJ cZ nr wd sg lw hg fr to sn pl kd tg sa sb bn mt pa ob tb fo rv ro tk ov sh tu rk cb rlo rhi rl rg tf kn tl th tv) sz) s.heap s.heap [] := va_S.rf
  generalize va_A (wC q cI cJ cZ nr wd sg lw hg fr to sn pl kd tg sa sb bn mt pa ob tb fo rv ro tk ov sh tu rk cb rlo rhi rl rg tf kn tl th tv) sz = A at C0 hD hA hS ⊢
  show W p l e rmX7_judge s m args below meth c s.heap [] 0 0 (QI below args s A (dC, dI) (ty3 cI cJ cZ) RES.1 (wC q cI cJ cZ nr wd sg lw hg fr to sn pl kd tg sa sb bn mt pa RES.2.1 RES.2.2.1 RES.2.2.2.1 RES.2.2.2.2.1 RES.2.2.2.2.2.1 RES.2.2.2.2.2.2.1 RES.2.2.2.2.2.2.2.1 RES.2.2.2.2.2.2.2.2.1 RES.2.2.2.2.2.2.2.2.2.1 RES.2.2.2.2.2.2.2.2.2.2.1 RES.2.2.2.2.2.2.2.2.2.2.2.1 RES.2.2.2.2.2.2.2.2.2.2.2.2.1 RES.2.2.2.2.2.2.2.2.2.2.2.2.2.1 RES.2.2.2.2.2.2.2.2.2.2.2.2.2.2.1 RES.2.2.2.2.2.2.2.2.2.2.2.2.2.2.2 tf kn tl th tv)) (F0 m 0 ls [])
  unfold mX7_judge at hres
  refine lv_aload_n hx hb dX7_judge_0 rfl (lv_at hl 0 rfl) ?_
  refine lv_iload_n hx hb dX7_judge_1 rfl (lv_at hl 1 rfl) ?_
  obtain ⟨u1, hu1, hres⟩ := mi_b hres
  refine call_I C0 (run_V C0 (rest := []) (kX7_isStep l dC dI q cI cJ cZ nr wd sg lw hg fr to sn pl kd tg sa sb bn mt pa ob tb fo rv ro tk ov sh tu rk cb rlo rhi rl rg tf kn tl th tv  x1 u1 hu1 _) (cwV 1 hts gX7_judge_X7_isStep rfl rfl rfl (by decide +kernel) ⟨by decide, by decide⟩) hP hD (ci := 7) (q0 := 0) rfl rfl rfl hl.1 rfl (Nat.le_of_ble_eq_true rfl) dX7_judge_2) hD hS (fun H locs hP hD hS => ?_)
  refine lv_if_ne (tgt := 10) hx hb dX7_judge_5 (by decide) (fun c_2 => ?_) (fun c_2 => ?_)
  · replace hres := mi_n c_2 hres
    refine lv_aload_n hx hb dX7_judge_10 rfl (lv_at hl 0 rfl) ?_
    refine va_get (D := (dC, dI)) (ci := 7) (v := .ref (q 23)) (C := RX7) (T := TX7) (N := 7) hx hb hts hwX7_judge_RX7 hown hK hP 0 rfl rfl 5 (by decide) (hts _ mwX7_judge_0) (fun _ h9 => h9) rfl dX7_judge_11 ?_
    obtain ⟨u3, hu3, hres⟩ := mi_b hres
    refine call_V C0 (run_V C0 (rest := []) (kX2_learn l dC dI q cI cJ cZ nr wd sg lw hg fr to sn pl kd tg sa sb bn mt pa ob tb fo rv ro tk ov sh tu rk cb rlo rhi rl rg tf kn tl th tv   u3 hu3 _) (cwV 0 hts gX7_judge_X2_learn rfl rfl rfl (by decide +kernel) ⟨by decide, by decide⟩) hP hD (ci := 2) (q0 := 23) rfl rfl rfl hl.1 rfl (Nat.le_of_ble_eq_true rfl) dX7_judge_14) hD hS (fun H locs hP hD hS => ?_)
    refine lv_aload_n hx hb dX7_judge_17 rfl (lv_at hl 0 rfl) ?_
    refine va_get (D := (dC, dI)) (ci := 7) (v := .ref (q 19)) (C := RX7) (T := TX7) (N := 7) hx hb hts hwX7_judge_RX7 hown hK hP 0 rfl rfl 4 (by decide) (hts _ mwX7_judge_1) (fun _ h9 => h9) rfl dX7_judge_18 ?_
    obtain ⟨u4, hu4, hres⟩ := mi_b hres
    refine call_V C0 (run_V C0 (rest := []) (kX5_learn l dC dI q cI cJ cZ nr wd sg lw hg fr to sn pl kd tg sa sb bn mt pa ob tb fo rv ro tk ov sh tu u3.1 u3.2.1 u3.2.2.1 u3.2.2.2.1 u3.2.2.2.2.1 u3.2.2.2.2.2 tf kn tl th tv   u4 hu4 _) (cwV 0 hts gX7_judge_X5_learn rfl rfl rfl (by decide +kernel) ⟨by decide, by decide⟩) hP hD (ci := 5) (q0 := 19) rfl rfl rfl hl.1 rfl (Nat.le_of_ble_eq_true rfl) dX7_judge_21) hD hS (fun H locs hP hD hS => ?_)
    refine lv_aload_n hx hb dX7_judge_24 rfl (lv_at hl 0 rfl) ?_
    refine lv_iload_n hx hb dX7_judge_25 rfl (lv_at hl 1 rfl) ?_
    obtain ⟨u5, hu5, hres⟩ := mi_b hres
    refine call_I C0 (run_V C0 (rest := []) (kX7_judged l dC dI q cI cJ cZ nr wd sg lw hg fr to sn pl kd tg sa sb bn mt pa u4.1 u4.2.1 u4.2.2.1 u4.2.2.2.1 u4.2.2.2.2.1 u4.2.2.2.2.2.1 u4.2.2.2.2.2.2.1 u4.2.2.2.2.2.2.2.1 u4.2.2.2.2.2.2.2.2 u3.1 u3.2.1 u3.2.2.1 u3.2.2.2.1 u3.2.2.2.2.1 u3.2.2.2.2.2 tf kn tl th tv  x1 u5 hu5 _) (cwV 1 hts gX7_judge_X7_judged rfl rfl rfl (by decide +kernel) ⟨by decide, by decide⟩) hP hD (ci := 7) (q0 := 0) rfl rfl rfl hl.1 rfl (Nat.le_of_ble_eq_true rfl) dX7_judge_26) hD hS (fun H locs hP hD hS => ?_)
    obtain rfl := Option.some.inj hres
    exact ret_I (r := u5) C0 rfl hP hD hS dX7_judge_29
  · replace hres := mi_p c_2 hres
    refine lv_iconst (v := (-1 : Int32)) hx hb dX7_judge_8 (by decide) ?_
    obtain rfl := Option.some.inj hres
    exact ret_I (r := (-1 : Int32)) C0 rfl hP hD hS dX7_judge_9
/-! ### SumsOver.over(I)I -/
set_option maxRecDepth 20000 in
theorem hwX7_over_RX7 : ∀ w ∈ u_ws RX7 TX7 7, w ∈ wsX7_over := by decide +kernel
theorem mwX7_over_0 : (.fieldLink RX7 44 "SumsOver" "tally" "LSumsOver$Tally;" : Cond) ∈ wsX7_over := by decide +kernel
set_option maxRecDepth 20000 in
theorem hwX7_over_RX5 : ∀ w ∈ u_ws RX5 TX5 7, w ∈ wsX7_over := by decide +kernel
theorem mwX7_over_1 : (.fieldLink RX7 136 "SumsOver$Tally" "over" "[I" : Cond) ∈ wsX7_over := by decide +kernel
def rmX7_over : Room := { frames := 6, cells := 0, slots := 0, locals := 149 }
set_option maxHeartbeats 4000000 in
set_option maxRecDepth 100000 in
theorem kX7_over (l : Launch) (dC : Nat → ClassId) (dI : Nat → Nat → Nat) (q : Nat → Nat) (cI cJ cZ : ClassId) (nr : Int32) (wd : Nat → Int32) (sg : Nat → Int32) (lw : Nat → Int64) (hg : Nat → Int64) (fr : Nat → Int32) (to : Nat → Int32) (sn : Int32) (pl : Int32) (kd : Nat → Int32) (tg : Nat → Int32) (sa : Nat → Int32) (sb : Nat → Int32) (bn : Nat → Int32) (mt : Nat → Int32) (pa : Nat → Int32) (ob : Int32) (tb : Int32) (fo : Int32) (rv : Nat → Int64) (ro : Int32) (tk : Int32) (ov : Nat → Int32) (sh : Nat → Int32) (tu : Nat → Int32) (rk : Int32) (cb : Int32) (rlo : Int64) (rhi : Int64) (rl : Nat → Int64) (rg : Nat → Int64) (tf : Int32) (kn : Int32) (tl : Nat → Int64) (th : Nat → Int64) (tv : Nat → Int64) (x1 : Int32) (RES : Int32 × (Int32) × (Int32) × (Int32) × (Nat → Int64) × (Int32) × (Int32) × (Nat → Int32) × (Nat → Int32) × (Nat → Int32)) (hres : mX7_over nr wd sg lw hg fr to sn pl kd tg sa sb bn pa ob tb fo rv ro tk ov sh tu x1 = some RES) : CtI l yX7_over wsX7_over rmX7_over (dC, dI) (ty3 cI cJ cZ) (wC q cI cJ cZ nr wd sg lw hg fr to sn pl kd tg sa sb bn mt pa ob tb fo rv ro tk ov sh tu rk cb rlo rhi rl rg tf kn tl th tv) [.ref (q 0), .int x1] RES.1 (wC q cI cJ cZ nr wd sg lw hg fr to sn pl kd tg sa sb bn mt pa RES.2.1 RES.2.2.1 RES.2.2.2.1 RES.2.2.2.2.1 RES.2.2.2.2.2.1 RES.2.2.2.2.2.2.1 RES.2.2.2.2.2.2.2.1 RES.2.2.2.2.2.2.2.2.1 RES.2.2.2.2.2.2.2.2.2 rk cb rlo rhi rl rg tf kn tl th tv) := by
  intro sz
  refine ct_entry (cc := cX7_over) (maxL := 2) (ret := some .int) (own := RX7) (by decide) rfl rfl (Nat.le_of_ble_eq_true rfl) (ll := [(0, .ref (q 0)), (1, .int x1)]) rfl ?_
  intro p e s m args below meth c hsz C0 _ hP hD ls hl
  have C1 := C0
  obtain ⟨hx, hb, hr, hml, hown, hts, hlocks, hN, hK, hA⟩ := C1
  have hS : va_S (va_A (wC q cI cJ cZ nr wd sg lw hg fr to sn pl kd tg sa sb bn mt pa ob tb fo rv ro tk ov sh tu rk cb rlo rhi rl rg tf kn tl th tv) sz) s.heap s.heap [] := va_S.rf
  generalize va_A (wC q cI cJ cZ nr wd sg lw hg fr to sn pl kd tg sa sb bn mt pa ob tb fo rv ro tk ov sh tu rk cb rlo rhi rl rg tf kn tl th tv) sz = A at C0 hD hA hS ⊢
  show W p l e rmX7_over s m args below meth c s.heap [] 0 0 (QI below args s A (dC, dI) (ty3 cI cJ cZ) RES.1 (wC q cI cJ cZ nr wd sg lw hg fr to sn pl kd tg sa sb bn mt pa RES.2.1 RES.2.2.1 RES.2.2.2.1 RES.2.2.2.2.1 RES.2.2.2.2.2.1 RES.2.2.2.2.2.2.1 RES.2.2.2.2.2.2.2.1 RES.2.2.2.2.2.2.2.2.1 RES.2.2.2.2.2.2.2.2.2 rk cb rlo rhi rl rg tf kn tl th tv)) (F0 m 0 ls [])
  unfold mX7_over at hres
  refine lv_aload_n hx hb dX7_over_0 rfl (lv_at hl 0 rfl) ?_
  refine lv_iload_n hx hb dX7_over_1 rfl (lv_at hl 1 rfl) ?_
  obtain ⟨u1, hu1, hres⟩ := mi_b hres
  refine call_I C0 (run_V C0 (rest := []) (kX7_isStep l dC dI q cI cJ cZ nr wd sg lw hg fr to sn pl kd tg sa sb bn mt pa ob tb fo rv ro tk ov sh tu rk cb rlo rhi rl rg tf kn tl th tv  x1 u1 hu1 _) (cwV 1 hts gX7_over_X7_isStep rfl rfl rfl (by decide +kernel) ⟨by decide, by decide⟩) hP hD (ci := 7) (q0 := 0) rfl rfl rfl hl.1 rfl (Nat.le_of_ble_eq_true rfl) dX7_over_2) hD hS (fun H locs hP hD hS => ?_)
  refine lv_if_ne (tgt := 10) hx hb dX7_over_5 (by decide) (fun c_2 => ?_) (fun c_2 => ?_)
  · replace hres := mi_n c_2 hres
    refine lv_aload_n hx hb dX7_over_10 rfl (lv_at hl 0 rfl) ?_
    refine va_get (D := (dC, dI)) (ci := 7) (v := .ref (q 19)) (C := RX7) (T := TX7) (N := 7) hx hb hts hwX7_over_RX7 hown hK hP 0 rfl rfl 4 (by decide) (hts _ mwX7_over_0) (fun _ h9 => h9) rfl dX7_over_11 ?_
    obtain ⟨u3, hu3, hres⟩ := mi_b hres
    refine call_V C0 (run_V C0 (rest := []) (kX5_learn l dC dI q cI cJ cZ nr wd sg lw hg fr to sn pl kd tg sa sb bn mt pa ob tb fo rv ro tk ov sh tu rk cb rlo rhi rl rg tf kn tl th tv   u3 hu3 _) (cwV 0 hts gX7_over_X5_learn rfl rfl rfl (by decide +kernel) ⟨by decide, by decide⟩) hP hD (ci := 5) (q0 := 19) rfl rfl rfl hl.1 rfl (Nat.le_of_ble_eq_true rfl) dX7_over_14) hD hS (fun H locs hP hD hS => ?_)
    refine lv_aload_n hx hb dX7_over_17 rfl (lv_at hl 0 rfl) ?_
    refine va_get (D := (dC, dI)) (ci := 7) (v := .ref (q 19)) (C := RX7) (T := TX7) (N := 7) hx hb hts hwX7_over_RX7 hown hK hP 0 rfl rfl 4 (by decide) (hts _ mwX7_over_0) (fun _ h9 => h9) rfl dX7_over_18 ?_
    refine va_get (D := (dC, dI)) (ci := 5) (v := .ref (q 20)) (C := RX5) (T := TX5) (N := 7) hx hb hts hwX7_over_RX5 hown hK hP 19 rfl rfl 0 (by decide) (hts _ mwX7_over_1) (fun _ h9 => h9) rfl dX7_over_21 ?_
    refine lv_iload_n hx hb dX7_over_24 rfl (lv_at hl 1 rfl) ?_
    obtain ⟨g_4, hres⟩ := mi_g hres
    refine va_iald (D := (dC, dI)) (cl := vwCl) hx hb hK hP 20 0 rfl rfl g_4 dX7_over_25 ?_
    obtain rfl := Option.some.inj hres
    exact ret_I (r := (u3.2.2.2.2.2.2.1 (Int32.toNatClampNeg x1))) C0 rfl hP hD hS dX7_over_26
  · replace hres := mi_p c_2 hres
    refine lv_iconst (v := (-1 : Int32)) hx hb dX7_over_8 (by decide) ?_
    obtain rfl := Option.some.inj hres
    exact ret_I (r := (-1 : Int32)) C0 rfl hP hD hS dX7_over_9
/-! ### SumsOver.shown(I)I -/
set_option maxRecDepth 20000 in
theorem hwX7_shown_RX7 : ∀ w ∈ u_ws RX7 TX7 7, w ∈ wsX7_shown := by decide +kernel
theorem mwX7_shown_0 : (.fieldLink RX7 44 "SumsOver" "tally" "LSumsOver$Tally;" : Cond) ∈ wsX7_shown := by decide +kernel
set_option maxRecDepth 20000 in
theorem hwX7_shown_RX5 : ∀ w ∈ u_ws RX5 TX5 7, w ∈ wsX7_shown := by decide +kernel
theorem mwX7_shown_1 : (.fieldLink RX7 139 "SumsOver$Tally" "shown" "[I" : Cond) ∈ wsX7_shown := by decide +kernel
def rmX7_shown : Room := { frames := 6, cells := 0, slots := 0, locals := 149 }
set_option maxHeartbeats 4000000 in
set_option maxRecDepth 100000 in
theorem kX7_shown (l : Launch) (dC : Nat → ClassId) (dI : Nat → Nat → Nat) (q : Nat → Nat) (cI cJ cZ : ClassId) (nr : Int32) (wd : Nat → Int32) (sg : Nat → Int32) (lw : Nat → Int64) (hg : Nat → Int64) (fr : Nat → Int32) (to : Nat → Int32) (sn : Int32) (pl : Int32) (kd : Nat → Int32) (tg : Nat → Int32) (sa : Nat → Int32) (sb : Nat → Int32) (bn : Nat → Int32) (mt : Nat → Int32) (pa : Nat → Int32) (ob : Int32) (tb : Int32) (fo : Int32) (rv : Nat → Int64) (ro : Int32) (tk : Int32) (ov : Nat → Int32) (sh : Nat → Int32) (tu : Nat → Int32) (rk : Int32) (cb : Int32) (rlo : Int64) (rhi : Int64) (rl : Nat → Int64) (rg : Nat → Int64) (tf : Int32) (kn : Int32) (tl : Nat → Int64) (th : Nat → Int64) (tv : Nat → Int64) (x1 : Int32) (RES : Int32 × (Int32) × (Int32) × (Int32) × (Nat → Int64) × (Int32) × (Int32) × (Nat → Int32) × (Nat → Int32) × (Nat → Int32)) (hres : mX7_shown nr wd sg lw hg fr to sn pl kd tg sa sb bn pa ob tb fo rv ro tk ov sh tu x1 = some RES) : CtI l yX7_shown wsX7_shown rmX7_shown (dC, dI) (ty3 cI cJ cZ) (wC q cI cJ cZ nr wd sg lw hg fr to sn pl kd tg sa sb bn mt pa ob tb fo rv ro tk ov sh tu rk cb rlo rhi rl rg tf kn tl th tv) [.ref (q 0), .int x1] RES.1 (wC q cI cJ cZ nr wd sg lw hg fr to sn pl kd tg sa sb bn mt pa RES.2.1 RES.2.2.1 RES.2.2.2.1 RES.2.2.2.2.1 RES.2.2.2.2.2.1 RES.2.2.2.2.2.2.1 RES.2.2.2.2.2.2.2.1 RES.2.2.2.2.2.2.2.2.1 RES.2.2.2.2.2.2.2.2.2 rk cb rlo rhi rl rg tf kn tl th tv) := by
  intro sz
  refine ct_entry (cc := cX7_shown) (maxL := 2) (ret := some .int) (own := RX7) (by decide) rfl rfl (Nat.le_of_ble_eq_true rfl) (ll := [(0, .ref (q 0)), (1, .int x1)]) rfl ?_
  intro p e s m args below meth c hsz C0 _ hP hD ls hl
  have C1 := C0
  obtain ⟨hx, hb, hr, hml, hown, hts, hlocks, hN, hK, hA⟩ := C1
  have hS : va_S (va_A (wC q cI cJ cZ nr wd sg lw hg fr to sn pl kd tg sa sb bn mt pa ob tb fo rv ro tk ov sh tu rk cb rlo rhi rl rg tf kn tl th tv) sz) s.heap s.heap [] := va_S.rf
  generalize va_A (wC q cI cJ cZ nr wd sg lw hg fr to sn pl kd tg sa sb bn mt pa ob tb fo rv ro tk ov sh tu rk cb rlo rhi rl rg tf kn tl th tv) sz = A at C0 hD hA hS ⊢
  show W p l e rmX7_shown s m args below meth c s.heap [] 0 0 (QI below args s A (dC, dI) (ty3 cI cJ cZ) RES.1 (wC q cI cJ cZ nr wd sg lw hg fr to sn pl kd tg sa sb bn mt pa RES.2.1 RES.2.2.1 RES.2.2.2.1 RES.2.2.2.2.1 RES.2.2.2.2.2.1 RES.2.2.2.2.2.2.1 RES.2.2.2.2.2.2.2.1 RES.2.2.2.2.2.2.2.2.1 RES.2.2.2.2.2.2.2.2.2 rk cb rlo rhi rl rg tf kn tl th tv)) (F0 m 0 ls [])
  unfold mX7_shown at hres
  refine lv_aload_n hx hb dX7_shown_0 rfl (lv_at hl 0 rfl) ?_
  refine lv_iload_n hx hb dX7_shown_1 rfl (lv_at hl 1 rfl) ?_
  obtain ⟨u1, hu1, hres⟩ := mi_b hres
  refine call_I C0 (run_V C0 (rest := []) (kX7_isStep l dC dI q cI cJ cZ nr wd sg lw hg fr to sn pl kd tg sa sb bn mt pa ob tb fo rv ro tk ov sh tu rk cb rlo rhi rl rg tf kn tl th tv  x1 u1 hu1 _) (cwV 1 hts gX7_shown_X7_isStep rfl rfl rfl (by decide +kernel) ⟨by decide, by decide⟩) hP hD (ci := 7) (q0 := 0) rfl rfl rfl hl.1 rfl (Nat.le_of_ble_eq_true rfl) dX7_shown_2) hD hS (fun H locs hP hD hS => ?_)
  refine lv_if_ne (tgt := 10) hx hb dX7_shown_5 (by decide) (fun c_2 => ?_) (fun c_2 => ?_)
  · replace hres := mi_n c_2 hres
    refine lv_aload_n hx hb dX7_shown_10 rfl (lv_at hl 0 rfl) ?_
    refine va_get (D := (dC, dI)) (ci := 7) (v := .ref (q 19)) (C := RX7) (T := TX7) (N := 7) hx hb hts hwX7_shown_RX7 hown hK hP 0 rfl rfl 4 (by decide) (hts _ mwX7_shown_0) (fun _ h9 => h9) rfl dX7_shown_11 ?_
    obtain ⟨u3, hu3, hres⟩ := mi_b hres
    refine call_V C0 (run_V C0 (rest := []) (kX5_learn l dC dI q cI cJ cZ nr wd sg lw hg fr to sn pl kd tg sa sb bn mt pa ob tb fo rv ro tk ov sh tu rk cb rlo rhi rl rg tf kn tl th tv   u3 hu3 _) (cwV 0 hts gX7_shown_X5_learn rfl rfl rfl (by decide +kernel) ⟨by decide, by decide⟩) hP hD (ci := 5) (q0 := 19) rfl rfl rfl hl.1 rfl (Nat.le_of_ble_eq_true rfl) dX7_shown_14) hD hS (fun H locs hP hD hS => ?_)
    refine lv_aload_n hx hb dX7_shown_17 rfl (lv_at hl 0 rfl) ?_
    refine va_get (D := (dC, dI)) (ci := 7) (v := .ref (q 19)) (C := RX7) (T := TX7) (N := 7) hx hb hts hwX7_shown_RX7 hown hK hP 0 rfl rfl 4 (by decide) (hts _ mwX7_shown_0) (fun _ h9 => h9) rfl dX7_shown_18 ?_
    refine va_get (D := (dC, dI)) (ci := 5) (v := .ref (q 21)) (C := RX5) (T := TX5) (N := 7) hx hb hts hwX7_shown_RX5 hown hK hP 19 rfl rfl 1 (by decide) (hts _ mwX7_shown_1) (fun _ h9 => h9) rfl dX7_shown_21 ?_
    refine lv_iload_n hx hb dX7_shown_24 rfl (lv_at hl 1 rfl) ?_
    obtain ⟨g_4, hres⟩ := mi_g hres
    refine va_iald (D := (dC, dI)) (cl := vwCl) hx hb hK hP 21 0 rfl rfl g_4 dX7_shown_25 ?_
    obtain rfl := Option.some.inj hres
    exact ret_I (r := (u3.2.2.2.2.2.2.2.1 (Int32.toNatClampNeg x1))) C0 rfl hP hD hS dX7_shown_26
  · replace hres := mi_p c_2 hres
    refine lv_iconst (v := (-1 : Int32)) hx hb dX7_shown_8 (by decide) ?_
    obtain rfl := Option.some.inj hres
    exact ret_I (r := (-1 : Int32)) C0 rfl hP hD hS dX7_shown_9
/-! ### SumsOver.turned(I)I -/
set_option maxRecDepth 20000 in
theorem hwX7_turned_RX7 : ∀ w ∈ u_ws RX7 TX7 7, w ∈ wsX7_turned := by decide +kernel
theorem mwX7_turned_0 : (.fieldLink RX7 26 "SumsOver" "steps" "LSumsOver$Steps;" : Cond) ∈ wsX7_turned := by decide +kernel
set_option maxRecDepth 20000 in
theorem hwX7_turned_RX4 : ∀ w ∈ u_ws RX4 TX4 9, w ∈ wsX7_turned := by decide +kernel
theorem mwX7_turned_1 : (.fieldLink RX7 142 "SumsOver$Steps" "kinds" "[I" : Cond) ∈ wsX7_turned := by decide +kernel
theorem mwX7_turned_2 : (.fieldLink RX7 44 "SumsOver" "tally" "LSumsOver$Tally;" : Cond) ∈ wsX7_turned := by decide +kernel
set_option maxRecDepth 20000 in
theorem hwX7_turned_RX5 : ∀ w ∈ u_ws RX5 TX5 7, w ∈ wsX7_turned := by decide +kernel
theorem mwX7_turned_3 : (.fieldLink RX7 145 "SumsOver$Tally" "turned" "[I" : Cond) ∈ wsX7_turned := by decide +kernel
def rmX7_turned : Room := { frames := 6, cells := 0, slots := 0, locals := 149 }
set_option maxHeartbeats 4000000 in
set_option maxRecDepth 100000 in
theorem kX7_turned (l : Launch) (dC : Nat → ClassId) (dI : Nat → Nat → Nat) (q : Nat → Nat) (cI cJ cZ : ClassId) (nr : Int32) (wd : Nat → Int32) (sg : Nat → Int32) (lw : Nat → Int64) (hg : Nat → Int64) (fr : Nat → Int32) (to : Nat → Int32) (sn : Int32) (pl : Int32) (kd : Nat → Int32) (tg : Nat → Int32) (sa : Nat → Int32) (sb : Nat → Int32) (bn : Nat → Int32) (mt : Nat → Int32) (pa : Nat → Int32) (ob : Int32) (tb : Int32) (fo : Int32) (rv : Nat → Int64) (ro : Int32) (tk : Int32) (ov : Nat → Int32) (sh : Nat → Int32) (tu : Nat → Int32) (rk : Int32) (cb : Int32) (rlo : Int64) (rhi : Int64) (rl : Nat → Int64) (rg : Nat → Int64) (tf : Int32) (kn : Int32) (tl : Nat → Int64) (th : Nat → Int64) (tv : Nat → Int64) (x1 : Int32) (RES : Int32 × (Int32) × (Int32) × (Int32) × (Nat → Int64) × (Int32) × (Int32) × (Nat → Int32) × (Nat → Int32) × (Nat → Int32)) (hres : mX7_turned nr wd sg lw hg fr to sn pl kd tg sa sb bn pa ob tb fo rv ro tk ov sh tu x1 = some RES) : CtI l yX7_turned wsX7_turned rmX7_turned (dC, dI) (ty3 cI cJ cZ) (wC q cI cJ cZ nr wd sg lw hg fr to sn pl kd tg sa sb bn mt pa ob tb fo rv ro tk ov sh tu rk cb rlo rhi rl rg tf kn tl th tv) [.ref (q 0), .int x1] RES.1 (wC q cI cJ cZ nr wd sg lw hg fr to sn pl kd tg sa sb bn mt pa RES.2.1 RES.2.2.1 RES.2.2.2.1 RES.2.2.2.2.1 RES.2.2.2.2.2.1 RES.2.2.2.2.2.2.1 RES.2.2.2.2.2.2.2.1 RES.2.2.2.2.2.2.2.2.1 RES.2.2.2.2.2.2.2.2.2 rk cb rlo rhi rl rg tf kn tl th tv) := by
  intro sz
  refine ct_entry (cc := cX7_turned) (maxL := 2) (ret := some .int) (own := RX7) (by decide) rfl rfl (Nat.le_of_ble_eq_true rfl) (ll := [(0, .ref (q 0)), (1, .int x1)]) rfl ?_
  intro p e s m args below meth c hsz C0 _ hP hD ls hl
  have C1 := C0
  obtain ⟨hx, hb, hr, hml, hown, hts, hlocks, hN, hK, hA⟩ := C1
  have hS : va_S (va_A (wC q cI cJ cZ nr wd sg lw hg fr to sn pl kd tg sa sb bn mt pa ob tb fo rv ro tk ov sh tu rk cb rlo rhi rl rg tf kn tl th tv) sz) s.heap s.heap [] := va_S.rf
  generalize va_A (wC q cI cJ cZ nr wd sg lw hg fr to sn pl kd tg sa sb bn mt pa ob tb fo rv ro tk ov sh tu rk cb rlo rhi rl rg tf kn tl th tv) sz = A at C0 hD hA hS ⊢
  show W p l e rmX7_turned s m args below meth c s.heap [] 0 0 (QI below args s A (dC, dI) (ty3 cI cJ cZ) RES.1 (wC q cI cJ cZ nr wd sg lw hg fr to sn pl kd tg sa sb bn mt pa RES.2.1 RES.2.2.1 RES.2.2.2.1 RES.2.2.2.2.1 RES.2.2.2.2.2.1 RES.2.2.2.2.2.2.1 RES.2.2.2.2.2.2.2.1 RES.2.2.2.2.2.2.2.2.1 RES.2.2.2.2.2.2.2.2.2 rk cb rlo rhi rl rg tf kn tl th tv)) (F0 m 0 ls [])
  unfold mX7_turned at hres
  refine lv_aload_n hx hb dX7_turned_0 rfl (lv_at hl 0 rfl) ?_
  refine lv_iload_n hx hb dX7_turned_1 rfl (lv_at hl 1 rfl) ?_
  obtain ⟨u1, hu1, hres⟩ := mi_b hres
  refine call_I C0 (run_V C0 (rest := []) (kX7_isStep l dC dI q cI cJ cZ nr wd sg lw hg fr to sn pl kd tg sa sb bn mt pa ob tb fo rv ro tk ov sh tu rk cb rlo rhi rl rg tf kn tl th tv  x1 u1 hu1 _) (cwV 1 hts gX7_turned_X7_isStep rfl rfl rfl (by decide +kernel) ⟨by decide, by decide⟩) hP hD (ci := 7) (q0 := 0) rfl rfl rfl hl.1 rfl (Nat.le_of_ble_eq_true rfl) dX7_turned_2) hD hS (fun H locs hP hD hS => ?_)
  refine lv_if_eq (tgt := 22) hx hb dX7_turned_5 (by decide) (fun c_2 => ?_) (fun c_2 => ?_)
  · replace hres := mi_p c_2 hres
    refine lv_iconst (v := (-1 : Int32)) hx hb dX7_turned_22 (by decide) ?_
    obtain rfl := Option.some.inj hres
    exact ret_I (r := (-1 : Int32)) C0 rfl hP hD hS dX7_turned_23
  · replace hres := mi_n c_2 hres
    refine lv_aload_n hx hb dX7_turned_8 rfl (lv_at hl 0 rfl) ?_
    refine va_get (D := (dC, dI)) (ci := 7) (v := .ref (q 9)) (C := RX7) (T := TX7) (N := 7) hx hb hts hwX7_turned_RX7 hown hK hP 0 rfl rfl 2 (by decide) (hts _ mwX7_turned_0) (fun _ h9 => h9) rfl dX7_turned_9 ?_
    refine va_get (D := (dC, dI)) (ci := 4) (v := .ref (q 10)) (C := RX4) (T := TX4) (N := 9) hx hb hts hwX7_turned_RX4 hown hK hP 9 rfl rfl 0 (by decide) (hts _ mwX7_turned_1) (fun _ h9 => h9) rfl dX7_turned_12 ?_
    refine lv_iload_n hx hb dX7_turned_15 rfl (lv_at hl 1 rfl) ?_
    obtain ⟨g_3, hres⟩ := mi_g hres
    refine va_iald (D := (dC, dI)) (cl := vwCl) hx hb hK hP 10 0 rfl rfl g_3 dX7_turned_16 ?_
    refine lv_bipush (v := (7 : Int32)) hx hb dX7_turned_17 (by decide) ?_
    refine lv_icmp_eq (tgt := 24) hx hb dX7_turned_19 (by decide) (fun c_4 => ?_) (fun c_4 => ?_)
    · replace hres := mi_p c_4 hres
      refine lv_aload_n hx hb dX7_turned_24 rfl (lv_at hl 0 rfl) ?_
      refine va_get (D := (dC, dI)) (ci := 7) (v := .ref (q 19)) (C := RX7) (T := TX7) (N := 7) hx hb hts hwX7_turned_RX7 hown hK hP 0 rfl rfl 4 (by decide) (hts _ mwX7_turned_2) (fun _ h9 => h9) rfl dX7_turned_25 ?_
      obtain ⟨u5, hu5, hres⟩ := mi_b hres
      refine call_V C0 (run_V C0 (rest := []) (kX5_learn l dC dI q cI cJ cZ nr wd sg lw hg fr to sn pl kd tg sa sb bn mt pa ob tb fo rv ro tk ov sh tu rk cb rlo rhi rl rg tf kn tl th tv   u5 hu5 _) (cwV 0 hts gX7_turned_X5_learn rfl rfl rfl (by decide +kernel) ⟨by decide, by decide⟩) hP hD (ci := 5) (q0 := 19) rfl rfl rfl hl.1 rfl (Nat.le_of_ble_eq_true rfl) dX7_turned_28) hD hS (fun H locs hP hD hS => ?_)
      refine lv_aload_n hx hb dX7_turned_31 rfl (lv_at hl 0 rfl) ?_
      refine va_get (D := (dC, dI)) (ci := 7) (v := .ref (q 19)) (C := RX7) (T := TX7) (N := 7) hx hb hts hwX7_turned_RX7 hown hK hP 0 rfl rfl 4 (by decide) (hts _ mwX7_turned_2) (fun _ h9 => h9) rfl dX7_turned_32 ?_
      refine va_get (D := (dC, dI)) (ci := 5) (v := .ref (q 22)) (C := RX5) (T := TX5) (N := 7) hx hb hts hwX7_turned_RX5 hown hK hP 19 rfl rfl 2 (by decide) (hts _ mwX7_turned_3) (fun _ h9 => h9) rfl dX7_turned_35 ?_
      refine lv_iload_n hx hb dX7_turned_38 rfl (lv_at hl 1 rfl) ?_
      refine va_iald (D := (dC, dI)) (cl := vwCl) hx hb hK hP 22 0 rfl rfl g_3 dX7_turned_39 ?_
      obtain rfl := Option.some.inj hres
      exact ret_I (r := (u5.2.2.2.2.2.2.2.2 (Int32.toNatClampNeg x1))) C0 rfl hP hD hS dX7_turned_40
    · replace hres := mi_n c_4 hres
      refine lv_iconst (v := (-1 : Int32)) hx hb dX7_turned_22 (by decide) ?_
      obtain rfl := Option.some.inj hres
      exact ret_I (r := (-1 : Int32)) C0 rfl hP hD hS dX7_turned_23
/-! ### SumsOver.ends(II)I -/
theorem mwX7_ends_0 : (.constant RX7 113 (-2147483648) : Cond) ∈ wsX7_ends := by decide +kernel
set_option maxRecDepth 20000 in
theorem hwX7_ends_RX7 : ∀ w ∈ u_ws RX7 TX7 7, w ∈ wsX7_ends := by decide +kernel
theorem mwX7_ends_1 : (.fieldLink RX7 53 "SumsOver" "reach" "LSumsOver$Reach;" : Cond) ∈ wsX7_ends := by decide +kernel
set_option maxRecDepth 20000 in
theorem hwX7_ends_RX2 : ∀ w ∈ u_ws RX2 TX2 9, w ∈ wsX7_ends := by decide +kernel
theorem mwX7_ends_2 : (.fieldLink RX7 151 "SumsOver$Reach" "greatest" "[J" : Cond) ∈ wsX7_ends := by decide +kernel
theorem mwX7_ends_3 : (.fieldLink RX7 148 "SumsOver$Reach" "least" "[J" : Cond) ∈ wsX7_ends := by decide +kernel
def rmX7_ends : Room := { frames := 5, cells := 0, slots := 0, locals := 121 }
set_option maxHeartbeats 4000000 in
set_option maxRecDepth 100000 in
theorem kX7_ends (l : Launch) (dC : Nat → ClassId) (dI : Nat → Nat → Nat) (q : Nat → Nat) (cI cJ cZ : ClassId) (nr : Int32) (wd : Nat → Int32) (sg : Nat → Int32) (lw : Nat → Int64) (hg : Nat → Int64) (fr : Nat → Int32) (to : Nat → Int32) (sn : Int32) (pl : Int32) (kd : Nat → Int32) (tg : Nat → Int32) (sa : Nat → Int32) (sb : Nat → Int32) (bn : Nat → Int32) (mt : Nat → Int32) (pa : Nat → Int32) (ob : Int32) (tb : Int32) (fo : Int32) (rv : Nat → Int64) (ro : Int32) (tk : Int32) (ov : Nat → Int32) (sh : Nat → Int32) (tu : Nat → Int32) (rk : Int32) (cb : Int32) (rlo : Int64) (rhi : Int64) (rl : Nat → Int64) (rg : Nat → Int64) (tf : Int32) (kn : Int32) (tl : Nat → Int64) (th : Nat → Int64) (tv : Nat → Int64) (x1 : Int32) (x2 : Int32) (RES : Int32 × (Int32) × (Int32) × (Int64) × (Int64) × (Nat → Int64) × (Nat → Int64)) (hres : mX7_ends nr sg lw hg fr to pl kd tg sa sb bn pa rk cb rlo rhi rl rg x1 x2 = some RES) : CtI l yX7_ends wsX7_ends rmX7_ends (dC, dI) (ty3 cI cJ cZ) (wC q cI cJ cZ nr wd sg lw hg fr to sn pl kd tg sa sb bn mt pa ob tb fo rv ro tk ov sh tu rk cb rlo rhi rl rg tf kn tl th tv) [.ref (q 0), .int x1, .int x2] RES.1 (wC q cI cJ cZ nr wd sg lw hg fr to sn pl kd tg sa sb bn mt pa ob tb fo rv ro tk ov sh tu RES.2.1 RES.2.2.1 RES.2.2.2.1 RES.2.2.2.2.1 RES.2.2.2.2.2.1 RES.2.2.2.2.2.2 tf kn tl th tv) := by
  intro sz
  refine ct_entry (cc := cX7_ends) (maxL := 3) (ret := some .int) (own := RX7) (by decide) rfl rfl (Nat.le_of_ble_eq_true rfl) (ll := [(0, .ref (q 0)), (1, .int x1), (2, .int x2)]) rfl ?_
  intro p e s m args below meth c hsz C0 _ hP hD ls hl
  have C1 := C0
  obtain ⟨hx, hb, hr, hml, hown, hts, hlocks, hN, hK, hA⟩ := C1
  have hS : va_S (va_A (wC q cI cJ cZ nr wd sg lw hg fr to sn pl kd tg sa sb bn mt pa ob tb fo rv ro tk ov sh tu rk cb rlo rhi rl rg tf kn tl th tv) sz) s.heap s.heap [] := va_S.rf
  generalize va_A (wC q cI cJ cZ nr wd sg lw hg fr to sn pl kd tg sa sb bn mt pa ob tb fo rv ro tk ov sh tu rk cb rlo rhi rl rg tf kn tl th tv) sz = A at C0 hD hA hS ⊢
  show W p l e rmX7_ends s m args below meth c s.heap [] 0 0 (QI below args s A (dC, dI) (ty3 cI cJ cZ) RES.1 (wC q cI cJ cZ nr wd sg lw hg fr to sn pl kd tg sa sb bn mt pa ob tb fo rv ro tk ov sh tu RES.2.1 RES.2.2.1 RES.2.2.2.1 RES.2.2.2.2.1 RES.2.2.2.2.2.1 RES.2.2.2.2.2.2 tf kn tl th tv)) (F0 m 0 ls [])
  unfold mX7_ends at hres
  refine lv_iload_n hx hb dX7_ends_0 rfl (lv_at hl 1 rfl) ?_
  obtain ⟨u1, hu1, hres⟩ := mi_b hres
  refine call_I C0 (run_S C0 (rest := []) (kX7_isName l (dC, dI) (ty3 cI cJ cZ) (wC q cI cJ cZ nr wd sg lw hg fr to sn pl kd tg sa sb bn mt pa ob tb fo rv ro tk ov sh tu rk cb rlo rhi rl rg tf kn tl th tv) x1 u1 hu1 _) (va_cwS 1 hts gX7_ends_X7_isName rfl rfl rfl (by decide +kernel) ⟨by decide, by decide⟩) hP hD rfl hl.1 rfl (Nat.le_of_ble_eq_true rfl) dX7_ends_1) hD hS (fun H locs hP hD hS => ?_)
  refine lv_if_eq (tgt := 16) hx hb dX7_ends_4 (by decide) (fun c_2 => ?_) (fun c_2 => ?_)
  · replace hres := mi_p c_2 hres
    refine lv_ldc (own := RX7) (v := (-2147483648 : Int32)) hx hb hown (hts _ mwX7_ends_0) dX7_ends_16 ?_
    obtain rfl := Option.some.inj hres
    exact ret_I (r := (-2147483648 : Int32)) C0 rfl hP hD hS dX7_ends_18
  · replace hres := mi_n c_2 hres
    refine lv_iload_n hx hb dX7_ends_7 rfl (lv_at hl 2 rfl) ?_
    refine lv_if_eq (tgt := 19) hx hb dX7_ends_8 (by decide) (fun c_3 => ?_) (fun c_3 => ?_)
    · replace hres := mi_p c_3 hres
      refine lv_aload_n hx hb dX7_ends_19 rfl (lv_at hl 0 rfl) ?_
      refine va_get (D := (dC, dI)) (ci := 7) (v := .ref (q 23)) (C := RX7) (T := TX7) (N := 7) hx hb hts hwX7_ends_RX7 hown hK hP 0 rfl rfl 5 (by decide) (hts _ mwX7_ends_1) (fun _ h9 => h9) rfl dX7_ends_20 ?_
      obtain ⟨u4, hu4, hres⟩ := mi_b hres
      refine call_V C0 (run_V C0 (rest := []) (kX2_learn l dC dI q cI cJ cZ nr wd sg lw hg fr to sn pl kd tg sa sb bn mt pa ob tb fo rv ro tk ov sh tu rk cb rlo rhi rl rg tf kn tl th tv   u4 hu4 _) (cwV 0 hts gX7_ends_X2_learn rfl rfl rfl (by decide +kernel) ⟨by decide, by decide⟩) hP hD (ci := 2) (q0 := 23) rfl rfl rfl hl.1 rfl (Nat.le_of_ble_eq_true rfl) dX7_ends_23) hD hS (fun H locs hP hD hS => ?_)
      refine lv_iload_n hx hb dX7_ends_26 rfl (lv_at hl 2 rfl) ?_
      refine lv_if_ne (tgt := 42) hx hb dX7_ends_27 (by decide) (fun c_5 => ?_) (fun c_5 => ?_)
      · replace hres := mi_n c_5 hres
        refine lv_aload_n hx hb dX7_ends_42 rfl (lv_at hl 0 rfl) ?_
        refine va_get (D := (dC, dI)) (ci := 7) (v := .ref (q 23)) (C := RX7) (T := TX7) (N := 7) hx hb hts hwX7_ends_RX7 hown hK hP 0 rfl rfl 5 (by decide) (hts _ mwX7_ends_1) (fun _ h9 => h9) rfl dX7_ends_43 ?_
        refine va_get (D := (dC, dI)) (ci := 2) (v := .ref (q 25)) (C := RX2) (T := TX2) (N := 9) hx hb hts hwX7_ends_RX2 hown hK hP 23 rfl rfl 1 (by decide) (hts _ mwX7_ends_2) (fun _ h9 => h9) rfl dX7_ends_46 ?_
        refine lv_iload_n hx hb dX7_ends_49 rfl (lv_at hl 1 rfl) ?_
        obtain ⟨g_6, hres⟩ := mi_g hres
        refine va_lald (D := (dC, dI)) (cl := vwCl) hx hb hK hP 25 1 rfl rfl g_6 dX7_ends_50 ?_
        refine lv_l2i (v := ((u4.2.2.2.2.2 (Int32.toNatClampNeg x1))).toInt32) hx hb dX7_ends_51 rfl ?_
        obtain rfl := Option.some.inj hres
        exact ret_I (r := (((u4.2.2.2.2.2 (Int32.toNatClampNeg x1))).toInt32)) C0 rfl hP hD hS dX7_ends_52
      · replace hres := mi_p c_5 hres
        refine lv_aload_n hx hb dX7_ends_30 rfl (lv_at hl 0 rfl) ?_
        refine va_get (D := (dC, dI)) (ci := 7) (v := .ref (q 23)) (C := RX7) (T := TX7) (N := 7) hx hb hts hwX7_ends_RX7 hown hK hP 0 rfl rfl 5 (by decide) (hts _ mwX7_ends_1) (fun _ h9 => h9) rfl dX7_ends_31 ?_
        refine va_get (D := (dC, dI)) (ci := 2) (v := .ref (q 24)) (C := RX2) (T := TX2) (N := 9) hx hb hts hwX7_ends_RX2 hown hK hP 23 rfl rfl 0 (by decide) (hts _ mwX7_ends_3) (fun _ h9 => h9) rfl dX7_ends_34 ?_
        refine lv_iload_n hx hb dX7_ends_37 rfl (lv_at hl 1 rfl) ?_
        obtain ⟨g_7, hres⟩ := mi_g hres
        refine va_lald (D := (dC, dI)) (cl := vwCl) hx hb hK hP 24 1 rfl rfl g_7 dX7_ends_38 ?_
        refine lv_goto (tgt := 51) hx hb dX7_ends_39 (by decide) ?_
        refine lv_l2i (v := ((u4.2.2.2.2.1 (Int32.toNatClampNeg x1))).toInt32) hx hb dX7_ends_51 rfl ?_
        obtain rfl := Option.some.inj hres
        exact ret_I (r := (((u4.2.2.2.2.1 (Int32.toNatClampNeg x1))).toInt32)) C0 rfl hP hD hS dX7_ends_52
    · replace hres := mi_n c_3 hres
      refine lv_iload_n hx hb dX7_ends_11 rfl (lv_at hl 2 rfl) ?_
      refine lv_iconst (v := (1 : Int32)) hx hb dX7_ends_12 (by decide) ?_
      refine lv_icmp_eq (tgt := 19) hx hb dX7_ends_13 (by decide) (fun c_8 => ?_) (fun c_8 => ?_)
      · replace hres := mi_p c_8 hres
        refine lv_aload_n hx hb dX7_ends_19 rfl (lv_at hl 0 rfl) ?_
        refine va_get (D := (dC, dI)) (ci := 7) (v := .ref (q 23)) (C := RX7) (T := TX7) (N := 7) hx hb hts hwX7_ends_RX7 hown hK hP 0 rfl rfl 5 (by decide) (hts _ mwX7_ends_1) (fun _ h9 => h9) rfl dX7_ends_20 ?_
        obtain ⟨u9, hu9, hres⟩ := mi_b hres
        refine call_V C0 (run_V C0 (rest := []) (kX2_learn l dC dI q cI cJ cZ nr wd sg lw hg fr to sn pl kd tg sa sb bn mt pa ob tb fo rv ro tk ov sh tu rk cb rlo rhi rl rg tf kn tl th tv   u9 hu9 _) (cwV 0 hts gX7_ends_X2_learn rfl rfl rfl (by decide +kernel) ⟨by decide, by decide⟩) hP hD (ci := 2) (q0 := 23) rfl rfl rfl hl.1 rfl (Nat.le_of_ble_eq_true rfl) dX7_ends_23) hD hS (fun H locs hP hD hS => ?_)
        refine lv_iload_n hx hb dX7_ends_26 rfl (lv_at hl 2 rfl) ?_
        refine lv_if_ne (tgt := 42) hx hb dX7_ends_27 (by decide) (fun c_10 => ?_) (fun c_10 => ?_)
        · replace hres := mi_n c_10 hres
          refine lv_aload_n hx hb dX7_ends_42 rfl (lv_at hl 0 rfl) ?_
          refine va_get (D := (dC, dI)) (ci := 7) (v := .ref (q 23)) (C := RX7) (T := TX7) (N := 7) hx hb hts hwX7_ends_RX7 hown hK hP 0 rfl rfl 5 (by decide) (hts _ mwX7_ends_1) (fun _ h9 => h9) rfl dX7_ends_43 ?_
          refine va_get (D := (dC, dI)) (ci := 2) (v := .ref (q 25)) (C := RX2) (T := TX2) (N := 9) hx hb hts hwX7_ends_RX2 hown hK hP 23 rfl rfl 1 (by decide) (hts _ mwX7_ends_2) (fun _ h9 => h9) rfl dX7_ends_46 ?_
          refine lv_iload_n hx hb dX7_ends_49 rfl (lv_at hl 1 rfl) ?_
          obtain ⟨g_11, hres⟩ := mi_g hres
          refine va_lald (D := (dC, dI)) (cl := vwCl) hx hb hK hP 25 1 rfl rfl g_11 dX7_ends_50 ?_
          refine lv_l2i (v := ((u9.2.2.2.2.2 (Int32.toNatClampNeg x1))).toInt32) hx hb dX7_ends_51 rfl ?_
          obtain rfl := Option.some.inj hres
          exact ret_I (r := (((u9.2.2.2.2.2 (Int32.toNatClampNeg x1))).toInt32)) C0 rfl hP hD hS dX7_ends_52
        · replace hres := mi_p c_10 hres
          refine lv_aload_n hx hb dX7_ends_30 rfl (lv_at hl 0 rfl) ?_
          refine va_get (D := (dC, dI)) (ci := 7) (v := .ref (q 23)) (C := RX7) (T := TX7) (N := 7) hx hb hts hwX7_ends_RX7 hown hK hP 0 rfl rfl 5 (by decide) (hts _ mwX7_ends_1) (fun _ h9 => h9) rfl dX7_ends_31 ?_
          refine va_get (D := (dC, dI)) (ci := 2) (v := .ref (q 24)) (C := RX2) (T := TX2) (N := 9) hx hb hts hwX7_ends_RX2 hown hK hP 23 rfl rfl 0 (by decide) (hts _ mwX7_ends_3) (fun _ h9 => h9) rfl dX7_ends_34 ?_
          refine lv_iload_n hx hb dX7_ends_37 rfl (lv_at hl 1 rfl) ?_
          obtain ⟨g_12, hres⟩ := mi_g hres
          refine va_lald (D := (dC, dI)) (cl := vwCl) hx hb hK hP 24 1 rfl rfl g_12 dX7_ends_38 ?_
          refine lv_goto (tgt := 51) hx hb dX7_ends_39 (by decide) ?_
          refine lv_l2i (v := ((u9.2.2.2.2.1 (Int32.toNatClampNeg x1))).toInt32) hx hb dX7_ends_51 rfl ?_
          obtain rfl := Option.some.inj hres
          exact ret_I (r := (((u9.2.2.2.2.1 (Int32.toNatClampNeg x1))).toInt32)) C0 rfl hP hD hS dX7_ends_52
      · replace hres := mi_n c_8 hres
        refine lv_ldc (own := RX7) (v := (-2147483648 : Int32)) hx hb hown (hts _ mwX7_ends_0) dX7_ends_16 ?_
        obtain rfl := Option.some.inj hres
        exact ret_I (r := (-2147483648 : Int32)) C0 rfl hP hD hS dX7_ends_18
/-! ### SumsOver.needed(I)I -/
set_option maxRecDepth 20000 in
theorem hwX7_needed_RX7 : ∀ w ∈ u_ws RX7 TX7 7, w ∈ wsX7_needed := by decide +kernel
theorem mwX7_needed_0 : (.fieldLink RX7 62 "SumsOver" "trues" "LSumsOver$Trues;" : Cond) ∈ wsX7_needed := by decide +kernel
set_option maxRecDepth 20000 in
theorem hwX7_needed_RX6 : ∀ w ∈ u_ws RX6 TX6 7, w ∈ wsX7_needed := by decide +kernel
theorem mwX7_needed_1 : (.fieldLink RX7 223 "SumsOver$Trues" "tooFar" "Z" : Cond) ∈ wsX7_needed := by decide +kernel
theorem mwX7_needed_2 : (.fieldLink RX7 10 "SumsOver" "names" "LSumsOver$Names;" : Cond) ∈ wsX7_needed := by decide +kernel
set_option maxRecDepth 20000 in
theorem hwX7_needed_RX1 : ∀ w ∈ u_ws RX1 TX1 5, w ∈ wsX7_needed := by decide +kernel
theorem mwX7_needed_3 : (.fieldLink RX7 171 "SumsOver$Names" "signs" "[Z" : Cond) ∈ wsX7_needed := by decide +kernel
theorem mwX7_needed_4 : (.fieldLink RX7 226 "SumsOver$Trues" "least" "[J" : Cond) ∈ wsX7_needed := by decide +kernel
theorem mwX7_needed_5 : (.fieldLink RX7 231 "SumsOver$Trues" "greatest" "[J" : Cond) ∈ wsX7_needed := by decide +kernel
def rmX7_needed : Room := { frames := 1, cells := 0, slots := 0, locals := 21 }
def iX7_needed_L24 (p : Program) (l : Launch) (e : Env) (s : State) (m : MethodId) (args : Array Value) (below : List Frame) (meth : Method) (c : Code) (A : Nat → Prop) (dC : Nat → ClassId) (dI : Nat → Nat → Nat) (q : Nat → Nat) (cI cJ cZ : ClassId) (nr : Int32) (wd : Nat → Int32) (sg : Nat → Int32) (lw : Nat → Int64) (hg : Nat → Int64) (fr : Nat → Int32) (to : Nat → Int32) (sn : Int32) (pl : Int32) (kd : Nat → Int32) (tg : Nat → Int32) (sa : Nat → Int32) (sb : Nat → Int32) (bn : Nat → Int32) (mt : Nat → Int32) (pa : Nat → Int32) (ob : Int32) (tb : Int32) (fo : Int32) (rv : Nat → Int64) (ro : Int32) (tk : Int32) (ov : Nat → Int32) (sh : Nat → Int32) (tu : Nat → Int32) (rk : Int32) (cb : Int32) (rlo : Int64) (rhi : Int64) (rl : Nat → Int64) (rg : Nat → Int64) (tf : Int32) (kn : Int32) (tl : Nat → Int64) (th : Nat → Int64) (tv : Nat → Int64)  (RES : Int32) (k : (Int32) → (Int32) → (Int32) → Option (Int32)) : Prop := ∀ (x1 : Int32) (x2 : Int32) (x3 : Int32) (H : Heap) (locs : List Loc) (ls : Array Slot), va_P (dC, dI) vwCl (wC q cI cJ cZ nr wd sg lw hg fr to sn pl kd tg sa sb bn mt pa ob tb fo rv ro tk ov sh tu rk cb rlo rhi rl rg tf kn tl th tv) H → va_D A (wC q cI cJ cZ nr wd sg lw hg fr to sn pl kd tg sa sb bn mt pa ob tb fo rv ro tk ov sh tu rk cb rlo rhi rl rg tf kn tl th tv) → va_S A s.heap H locs → lv_has ls 4 [(0, .ref (q 0)), (1, .int x1), (2, .int x2), (3, .int x3)] → k x1 x2 x3 = some RES → W p l e rmX7_needed s m args below meth c H locs 0 0 (QI below args s A (dC, dI) (ty3 cI cJ cZ) RES (wC q cI cJ cZ nr wd sg lw hg fr to sn pl kd tg sa sb bn mt pa ob tb fo rv ro tk ov sh tu rk cb rlo rhi rl rg tf kn tl th tv)) (F0 m 24 ls [])
set_option maxHeartbeats 4000000 in
set_option maxRecDepth 100000 in
theorem zX7_needed_L24 {p : Program} {l : Launch} {e : Env} {s : State} {m : MethodId} {args : Array Value} {below : List Frame} {meth : Method} {c : Code} {A : Nat → Prop} {dC : Nat → ClassId} {dI : Nat → Nat → Nat} {q : Nat → Nat} {cI cJ cZ : ClassId} {nr : Int32} {wd : Nat → Int32} {sg : Nat → Int32} {lw : Nat → Int64} {hg : Nat → Int64} {fr : Nat → Int32} {to : Nat → Int32} {sn : Int32} {pl : Int32} {kd : Nat → Int32} {tg : Nat → Int32} {sa : Nat → Int32} {sb : Nat → Int32} {bn : Nat → Int32} {mt : Nat → Int32} {pa : Nat → Int32} {ob : Int32} {tb : Int32} {fo : Int32} {rv : Nat → Int64} {ro : Int32} {tk : Int32} {ov : Nat → Int32} {sh : Nat → Int32} {tu : Nat → Int32} {rk : Int32} {cb : Int32} {rlo : Int64} {rhi : Int64} {rl : Nat → Int64} {rg : Nat → Int64} {tf : Int32} {kn : Int32} {tl : Nat → Int64} {th : Nat → Int64} {tv : Nat → Int64}  (C0 : Cx p s m args meth c cX7_needed 4 (some .int) RX7 wsX7_needed A (dC, dI) (ty3 cI cJ cZ)) {RES : Int32}  : ∀ n : Nat, iX7_needed_L24 p l e s m args below meth c A dC dI q cI cJ cZ nr wd sg lw hg fr to sn pl kd tg sa sb bn mt pa ob tb fo rv ro tk ov sh tu rk cb rlo rhi rl rg tf kn tl th tv RES (mX7_needed_L24 sg tf tl th n) := by
  have C1 := C0
  obtain ⟨hx, hb, hr, hml, hown, hts, hlocks, hN, hK, hA⟩ := C1
  intro n
  induction n with
  | zero =>
    intro x1 x2 x3 H locs ls hP hD hS hl hres
    exact mi_0 hres
  | succ n ih =>
    intro x1 x2 x3 H locs ls hP hD hS hl hres
    rw [mX7_needed_L24] at hres
    refine lv_iload_n hx hb dX7_needed_24 rfl (lv_at hl 3 rfl) ?_
    refine lv_bipush (v := (31 : Int32)) hx hb dX7_needed_25 (by decide) ?_
    refine lv_icmp_gt (tgt := 74) hx hb dX7_needed_27 (by decide) (fun c_3 => ?_) (fun c_3 => ?_)
    · replace hres := mi_p c_3 hres
      refine lv_iconst (v := (-1 : Int32)) hx hb dX7_needed_74 (by decide) ?_
      obtain rfl := Option.some.inj hres
      exact ret_I (r := (-1 : Int32)) C0 rfl hP hD hS dX7_needed_75
    · replace hres := mi_n c_3 hres
      refine lv_aload_n hx hb dX7_needed_30 rfl (lv_at hl 0 rfl) ?_
      refine va_get (D := (dC, dI)) (ci := 7) (v := .ref (q 26)) (C := RX7) (T := TX7) (N := 7) hx hb hts hwX7_needed_RX7 hown hK hP 0 rfl rfl 6 (by decide) (hts _ mwX7_needed_0) (fun _ h9 => h9) rfl dX7_needed_31 ?_
      refine va_get (D := (dC, dI)) (ci := 6) (v := .ref (q 27)) (C := RX6) (T := TX6) (N := 7) hx hb hts hwX7_needed_RX6 hown hK hP 26 rfl rfl 0 (by decide) (hts _ mwX7_needed_4) (fun _ h9 => h9) rfl dX7_needed_34 ?_
      refine lv_iload_n hx hb dX7_needed_37 rfl (lv_at hl 1 rfl) ?_
      obtain ⟨g_4, hres⟩ := mi_g hres
      refine va_lald (D := (dC, dI)) (cl := vwCl) hx hb hK hP 27 1 rfl rfl g_4 dX7_needed_38 ?_
      refine lv_iload_n hx hb dX7_needed_39 rfl (lv_at hl 3 rfl) ?_
      refine lv_iload_n hx hb dX7_needed_40 rfl (lv_at hl 2 rfl) ?_
      obtain ⟨u5, hu5, hres⟩ := mi_b hres
      refine call_L C0 (run_S C0 (rest := [.long (tl (Int32.toNatClampNeg x1))]) (kX7_leastOf l (dC, dI) (ty3 cI cJ cZ) (wC q cI cJ cZ nr wd sg lw hg fr to sn pl kd tg sa sb bn mt pa ob tb fo rv ro tk ov sh tu rk cb rlo rhi rl rg tf kn tl th tv) x3 x2 u5 hu5 _) (va_cwS 2 hts gX7_needed_X7_leastOf rfl rfl rfl (by decide +kernel) ⟨by decide, by decide⟩) hP hD rfl hl.1 rfl (Nat.le_of_ble_eq_true rfl) dX7_needed_41) hD hS (fun H locs hP hD hS => ?_)
      refine W.lcmp hx hb dX7_needed_44 ?_
      refine lv_if_lt (tgt := 68) hx hb dX7_needed_45 (by decide) (fun c_6 => ?_) (fun c_6 => ?_)
      · rw [lg_cmp_lt] at c_6
        replace hres := mi_p c_6 hres
        refine lv_iinc (v := x3 + (1 : Int32)) (lv' := [(3, .int (x3 + (1 : Int32))), (0, .ref (q 0)), (1, .int x1), (2, .int x2)]) hx hb dX7_needed_68 hl (k := 3) rfl rfl (by decide) rfl (fun ls hl => ?_)
        refine lv_goto (tgt := 24) hx hb dX7_needed_71 (by decide) ?_
        exact ih x1 x2 (x3 + (1 : Int32)) _ _ ls hP hD hS (lv_sub hl [1, 2, 3, 0] rfl) hres
      · rw [lg_cmp_lt] at c_6
        replace hres := mi_n c_6 hres
        refine lv_aload_n hx hb dX7_needed_48 rfl (lv_at hl 0 rfl) ?_
        refine va_get (D := (dC, dI)) (ci := 7) (v := .ref (q 26)) (C := RX7) (T := TX7) (N := 7) hx hb hts hwX7_needed_RX7 hown hK hP 0 rfl rfl 6 (by decide) (hts _ mwX7_needed_0) (fun _ h9 => h9) rfl dX7_needed_49 ?_
        refine va_get (D := (dC, dI)) (ci := 6) (v := .ref (q 28)) (C := RX6) (T := TX6) (N := 7) hx hb hts hwX7_needed_RX6 hown hK hP 26 rfl rfl 1 (by decide) (hts _ mwX7_needed_5) (fun _ h9 => h9) rfl dX7_needed_52 ?_
        refine lv_iload_n hx hb dX7_needed_55 rfl (lv_at hl 1 rfl) ?_
        refine va_lald (D := (dC, dI)) (cl := vwCl) hx hb hK hP 28 1 rfl rfl g_4 dX7_needed_56 ?_
        refine lv_iload_n hx hb dX7_needed_57 rfl (lv_at hl 3 rfl) ?_
        refine lv_iload_n hx hb dX7_needed_58 rfl (lv_at hl 2 rfl) ?_
        obtain ⟨u7, hu7, hres⟩ := mi_b hres
        refine call_L C0 (run_S C0 (rest := [.long (th (Int32.toNatClampNeg x1))]) (kX7_greatestOf l (dC, dI) (ty3 cI cJ cZ) (wC q cI cJ cZ nr wd sg lw hg fr to sn pl kd tg sa sb bn mt pa ob tb fo rv ro tk ov sh tu rk cb rlo rhi rl rg tf kn tl th tv) x3 x2 u7 hu7 _) (va_cwS 2 hts gX7_needed_X7_greatestOf rfl rfl rfl (by decide +kernel) ⟨by decide, by decide⟩) hP hD rfl hl.1 rfl (Nat.le_of_ble_eq_true rfl) dX7_needed_59) hD hS (fun H locs hP hD hS => ?_)
        refine W.lcmp hx hb dX7_needed_62 ?_
        refine lv_if_gt (tgt := 68) hx hb dX7_needed_63 (by decide) (fun c_8 => ?_) (fun c_8 => ?_)
        · rw [lg_cmp_gt] at c_8
          replace hres := mi_p c_8 hres
          refine lv_iinc (v := x3 + (1 : Int32)) (lv' := [(3, .int (x3 + (1 : Int32))), (0, .ref (q 0)), (1, .int x1), (2, .int x2)]) hx hb dX7_needed_68 hl (k := 3) rfl rfl (by decide) rfl (fun ls hl => ?_)
          refine lv_goto (tgt := 24) hx hb dX7_needed_71 (by decide) ?_
          exact ih x1 x2 (x3 + (1 : Int32)) _ _ ls hP hD hS (lv_sub hl [1, 2, 3, 0] rfl) hres
        · rw [lg_cmp_gt] at c_8
          replace hres := mi_n c_8 hres
          refine lv_iload_n hx hb dX7_needed_66 rfl (lv_at hl 3 rfl) ?_
          obtain rfl := Option.some.inj hres
          exact ret_I (r := x3) C0 rfl hP hD hS dX7_needed_67
set_option maxHeartbeats 4000000 in
set_option maxRecDepth 100000 in
theorem kX7_needed (l : Launch) (dC : Nat → ClassId) (dI : Nat → Nat → Nat) (q : Nat → Nat) (cI cJ cZ : ClassId) (nr : Int32) (wd : Nat → Int32) (sg : Nat → Int32) (lw : Nat → Int64) (hg : Nat → Int64) (fr : Nat → Int32) (to : Nat → Int32) (sn : Int32) (pl : Int32) (kd : Nat → Int32) (tg : Nat → Int32) (sa : Nat → Int32) (sb : Nat → Int32) (bn : Nat → Int32) (mt : Nat → Int32) (pa : Nat → Int32) (ob : Int32) (tb : Int32) (fo : Int32) (rv : Nat → Int64) (ro : Int32) (tk : Int32) (ov : Nat → Int32) (sh : Nat → Int32) (tu : Nat → Int32) (rk : Int32) (cb : Int32) (rlo : Int64) (rhi : Int64) (rl : Nat → Int64) (rg : Nat → Int64) (tf : Int32) (kn : Int32) (tl : Nat → Int64) (th : Nat → Int64) (tv : Nat → Int64) (x1 : Int32) (RES : Int32) (hres : mX7_needed sg tf tl th x1 = some RES) : CtI l yX7_needed wsX7_needed rmX7_needed (dC, dI) (ty3 cI cJ cZ) (wC q cI cJ cZ nr wd sg lw hg fr to sn pl kd tg sa sb bn mt pa ob tb fo rv ro tk ov sh tu rk cb rlo rhi rl rg tf kn tl th tv) [.ref (q 0), .int x1] RES (wC q cI cJ cZ nr wd sg lw hg fr to sn pl kd tg sa sb bn mt pa ob tb fo rv ro tk ov sh tu rk cb rlo rhi rl rg tf kn tl th tv) := by
  intro sz
  refine ct_entry (cc := cX7_needed) (maxL := 4) (ret := some .int) (own := RX7) (by decide) rfl rfl (Nat.le_of_ble_eq_true rfl) (ll := [(0, .ref (q 0)), (1, .int x1)]) rfl ?_
  intro p e s m args below meth c hsz C0 _ hP hD ls hl
  have C1 := C0
  obtain ⟨hx, hb, hr, hml, hown, hts, hlocks, hN, hK, hA⟩ := C1
  have hS : va_S (va_A (wC q cI cJ cZ nr wd sg lw hg fr to sn pl kd tg sa sb bn mt pa ob tb fo rv ro tk ov sh tu rk cb rlo rhi rl rg tf kn tl th tv) sz) s.heap s.heap [] := va_S.rf
  generalize va_A (wC q cI cJ cZ nr wd sg lw hg fr to sn pl kd tg sa sb bn mt pa ob tb fo rv ro tk ov sh tu rk cb rlo rhi rl rg tf kn tl th tv) sz = A at C0 hD hA hS ⊢
  show W p l e rmX7_needed s m args below meth c s.heap [] 0 0 (QI below args s A (dC, dI) (ty3 cI cJ cZ) RES (wC q cI cJ cZ nr wd sg lw hg fr to sn pl kd tg sa sb bn mt pa ob tb fo rv ro tk ov sh tu rk cb rlo rhi rl rg tf kn tl th tv)) (F0 m 0 ls [])
  unfold mX7_needed at hres
  refine lv_aload_n hx hb dX7_needed_0 rfl (lv_at hl 0 rfl) ?_
  refine va_get (D := (dC, dI)) (ci := 7) (v := .ref (q 26)) (C := RX7) (T := TX7) (N := 7) hx hb hts hwX7_needed_RX7 hown hK hP 0 rfl rfl 6 (by decide) (hts _ mwX7_needed_0) (fun _ h9 => h9) rfl dX7_needed_1 ?_
  refine va_get (D := (dC, dI)) (ci := 6) (v := .int tf) (C := RX6) (T := TX6) (N := 7) hx hb hts hwX7_needed_RX6 hown hK hP 26 rfl rfl 2 (by decide) (hts _ mwX7_needed_1) (fun _ h9 => h9) rfl dX7_needed_4 ?_
  refine lv_if_eq (tgt := 12) hx hb dX7_needed_7 (by decide) (fun c_1 => ?_) (fun c_1 => ?_)
  · replace hres := mi_p c_1 hres
    refine lv_aload_n hx hb dX7_needed_12 rfl (lv_at hl 0 rfl) ?_
    refine va_get (D := (dC, dI)) (ci := 7) (v := .ref (q 1)) (C := RX7) (T := TX7) (N := 7) hx hb hts hwX7_needed_RX7 hown hK hP 0 rfl rfl 0 (by decide) (hts _ mwX7_needed_2) (fun _ h9 => h9) rfl dX7_needed_13 ?_
    refine va_get (D := (dC, dI)) (ci := 1) (v := .ref (q 3)) (C := RX1) (T := TX1) (N := 5) hx hb hts hwX7_needed_RX1 hown hK hP 1 rfl rfl 1 (by decide) (hts _ mwX7_needed_3) (fun _ h9 => h9) rfl dX7_needed_16 ?_
    refine lv_iload_n hx hb dX7_needed_19 rfl (lv_at hl 1 rfl) ?_
    obtain ⟨g_2, hres⟩ := mi_g hres
    refine va_zald (D := (dC, dI)) (cl := vwCl) hx hb hK hP 3 2 rfl rfl g_2 dX7_needed_20 ?_
    refine lv_istore_n (lv' := [(2, .int (sg (Int32.toNatClampNeg x1))), (0, .ref (q 0)), (1, .int x1)]) hx hb dX7_needed_21 rfl hl (by decide) rfl (fun ls hl => ?_)
    refine lv_iconst (v := (2 : Int32)) hx hb dX7_needed_22 (by decide) ?_
    refine lv_istore_n (lv' := [(3, .int (2 : Int32)), (2, .int (sg (Int32.toNatClampNeg x1))), (0, .ref (q 0)), (1, .int x1)]) hx hb dX7_needed_23 rfl hl (by decide) rfl (fun ls hl => ?_)
    exact zX7_needed_L24 C0  FU x1 (sg (Int32.toNatClampNeg x1)) (2 : Int32) _ _ ls hP hD hS (lv_sub hl [2, 3, 1, 0] rfl) hres
  · replace hres := mi_n c_1 hres
    refine lv_iconst (v := (-1 : Int32)) hx hb dX7_needed_10 (by decide) ?_
    obtain rfl := Option.some.inj hres
    exact ret_I (r := (-1 : Int32)) C0 rfl hP hD hS dX7_needed_11
/-! ### SumsOver.need(I)I -/
set_option maxRecDepth 20000 in
theorem hwX7_need_RX7 : ∀ w ∈ u_ws RX7 TX7 7, w ∈ wsX7_need := by decide +kernel
theorem mwX7_need_0 : (.fieldLink RX7 62 "SumsOver" "trues" "LSumsOver$Trues;" : Cond) ∈ wsX7_need := by decide +kernel
def rmX7_need : Room := { frames := 5, cells := 0, slots := 0, locals := 118 }
set_option maxHeartbeats 4000000 in
set_option maxRecDepth 100000 in
theorem kX7_need (l : Launch) (dC : Nat → ClassId) (dI : Nat → Nat → Nat) (q : Nat → Nat) (cI cJ cZ : ClassId) (nr : Int32) (wd : Nat → Int32) (sg : Nat → Int32) (lw : Nat → Int64) (hg : Nat → Int64) (fr : Nat → Int32) (to : Nat → Int32) (sn : Int32) (pl : Int32) (kd : Nat → Int32) (tg : Nat → Int32) (sa : Nat → Int32) (sb : Nat → Int32) (bn : Nat → Int32) (mt : Nat → Int32) (pa : Nat → Int32) (ob : Int32) (tb : Int32) (fo : Int32) (rv : Nat → Int64) (ro : Int32) (tk : Int32) (ov : Nat → Int32) (sh : Nat → Int32) (tu : Nat → Int32) (rk : Int32) (cb : Int32) (rlo : Int64) (rhi : Int64) (rl : Nat → Int64) (rg : Nat → Int64) (tf : Int32) (kn : Int32) (tl : Nat → Int64) (th : Nat → Int64) (tv : Nat → Int64) (x1 : Int32) (RES : Int32 × (Int32) × (Int32) × (Nat → Int64) × (Nat → Int64) × (Nat → Int64)) (hres : mX7_need sg fr to pl kd tg sa sb bn pa tf kn tl th tv x1 = some RES) : CtI l yX7_need wsX7_need rmX7_need (dC, dI) (ty3 cI cJ cZ) (wC q cI cJ cZ nr wd sg lw hg fr to sn pl kd tg sa sb bn mt pa ob tb fo rv ro tk ov sh tu rk cb rlo rhi rl rg tf kn tl th tv) [.ref (q 0), .int x1] RES.1 (wC q cI cJ cZ nr wd sg lw hg fr to sn pl kd tg sa sb bn mt pa ob tb fo rv ro tk ov sh tu rk cb rlo rhi rl rg RES.2.1 RES.2.2.1 RES.2.2.2.1 RES.2.2.2.2.1 RES.2.2.2.2.2) := by
  intro sz
  refine ct_entry (cc := cX7_need) (maxL := 2) (ret := some .int) (own := RX7) (by decide) rfl rfl (Nat.le_of_ble_eq_true rfl) (ll := [(0, .ref (q 0)), (1, .int x1)]) rfl ?_
  intro p e s m args below meth c hsz C0 _ hP hD ls hl
  have C1 := C0
  obtain ⟨hx, hb, hr, hml, hown, hts, hlocks, hN, hK, hA⟩ := C1
  have hS : va_S (va_A (wC q cI cJ cZ nr wd sg lw hg fr to sn pl kd tg sa sb bn mt pa ob tb fo rv ro tk ov sh tu rk cb rlo rhi rl rg tf kn tl th tv) sz) s.heap s.heap [] := va_S.rf
  generalize va_A (wC q cI cJ cZ nr wd sg lw hg fr to sn pl kd tg sa sb bn mt pa ob tb fo rv ro tk ov sh tu rk cb rlo rhi rl rg tf kn tl th tv) sz = A at C0 hD hA hS ⊢
  show W p l e rmX7_need s m args below meth c s.heap [] 0 0 (QI below args s A (dC, dI) (ty3 cI cJ cZ) RES.1 (wC q cI cJ cZ nr wd sg lw hg fr to sn pl kd tg sa sb bn mt pa ob tb fo rv ro tk ov sh tu rk cb rlo rhi rl rg RES.2.1 RES.2.2.1 RES.2.2.2.1 RES.2.2.2.2.1 RES.2.2.2.2.2)) (F0 m 0 ls [])
  unfold mX7_need at hres
  refine lv_iload_n hx hb dX7_need_0 rfl (lv_at hl 1 rfl) ?_
  obtain ⟨u1, hu1, hres⟩ := mi_b hres
  refine call_I C0 (run_S C0 (rest := []) (kX7_isName l (dC, dI) (ty3 cI cJ cZ) (wC q cI cJ cZ nr wd sg lw hg fr to sn pl kd tg sa sb bn mt pa ob tb fo rv ro tk ov sh tu rk cb rlo rhi rl rg tf kn tl th tv) x1 u1 hu1 _) (va_cwS 1 hts gX7_need_X7_isName rfl rfl rfl (by decide +kernel) ⟨by decide, by decide⟩) hP hD rfl hl.1 rfl (Nat.le_of_ble_eq_true rfl) dX7_need_1) hD hS (fun H locs hP hD hS => ?_)
  refine lv_if_ne (tgt := 9) hx hb dX7_need_4 (by decide) (fun c_2 => ?_) (fun c_2 => ?_)
  · replace hres := mi_n c_2 hres
    refine lv_aload_n hx hb dX7_need_9 rfl (lv_at hl 0 rfl) ?_
    refine va_get (D := (dC, dI)) (ci := 7) (v := .ref (q 26)) (C := RX7) (T := TX7) (N := 7) hx hb hts hwX7_need_RX7 hown hK hP 0 rfl rfl 6 (by decide) (hts _ mwX7_need_0) (fun _ h9 => h9) rfl dX7_need_10 ?_
    obtain ⟨u3, hu3, hres⟩ := mi_b hres
    refine call_V C0 (run_V C0 (rest := []) (kX6_learn l dC dI q cI cJ cZ nr wd sg lw hg fr to sn pl kd tg sa sb bn mt pa ob tb fo rv ro tk ov sh tu rk cb rlo rhi rl rg tf kn tl th tv   u3 hu3 _) (cwV 0 hts gX7_need_X6_learn rfl rfl rfl (by decide +kernel) ⟨by decide, by decide⟩) hP hD (ci := 6) (q0 := 26) rfl rfl rfl hl.1 rfl (Nat.le_of_ble_eq_true rfl) dX7_need_13) hD hS (fun H locs hP hD hS => ?_)
    refine lv_aload_n hx hb dX7_need_16 rfl (lv_at hl 0 rfl) ?_
    refine lv_iload_n hx hb dX7_need_17 rfl (lv_at hl 1 rfl) ?_
    obtain ⟨u4, hu4, hres⟩ := mi_b hres
    refine call_I C0 (run_V C0 (rest := []) (kX7_needed l dC dI q cI cJ cZ nr wd sg lw hg fr to sn pl kd tg sa sb bn mt pa ob tb fo rv ro tk ov sh tu rk cb rlo rhi rl rg u3.1 u3.2.1 u3.2.2.1 u3.2.2.2.1 u3.2.2.2.2  x1 u4 hu4 _) (cwV 1 hts gX7_need_X7_needed rfl rfl rfl (by decide +kernel) ⟨by decide, by decide⟩) hP hD (ci := 7) (q0 := 0) rfl rfl rfl hl.1 rfl (Nat.le_of_ble_eq_true rfl) dX7_need_18) hD hS (fun H locs hP hD hS => ?_)
    obtain rfl := Option.some.inj hres
    exact ret_I (r := u4) C0 rfl hP hD hS dX7_need_21
  · replace hres := mi_p c_2 hres
    refine lv_iconst (v := (-1 : Int32)) hx hb dX7_need_7 (by decide) ?_
    obtain rfl := Option.some.inj hres
    exact ret_I (r := (-1 : Int32)) C0 rfl hP hD hS dX7_need_8
/-! ### SumsOver.canMend()Z -/
def rmX7_canMend : Room := { frames := 2, cells := 0, slots := 0, locals := 44 }
def iX7_canMend_L2 (p : Program) (l : Launch) (e : Env) (s : State) (m : MethodId) (args : Array Value) (below : List Frame) (meth : Method) (c : Code) (A : Nat → Prop) (dC : Nat → ClassId) (dI : Nat → Nat → Nat) (q : Nat → Nat) (cI cJ cZ : ClassId) (nr : Int32) (wd : Nat → Int32) (sg : Nat → Int32) (lw : Nat → Int64) (hg : Nat → Int64) (fr : Nat → Int32) (to : Nat → Int32) (sn : Int32) (pl : Int32) (kd : Nat → Int32) (tg : Nat → Int32) (sa : Nat → Int32) (sb : Nat → Int32) (bn : Nat → Int32) (mt : Nat → Int32) (pa : Nat → Int32) (ob : Int32) (tb : Int32) (fo : Int32) (rv : Nat → Int64) (ro : Int32) (tk : Int32) (ov : Nat → Int32) (sh : Nat → Int32) (tu : Nat → Int32) (rk : Int32) (cb : Int32) (rlo : Int64) (rhi : Int64) (rl : Nat → Int64) (rg : Nat → Int64) (tf : Int32) (kn : Int32) (tl : Nat → Int64) (th : Nat → Int64) (tv : Nat → Int64)  (RES : Int32) (k : (Int32) → Option (Int32)) : Prop := ∀ (x1 : Int32) (H : Heap) (locs : List Loc) (ls : Array Slot), va_P (dC, dI) vwCl (wC q cI cJ cZ nr wd sg lw hg fr to sn pl kd tg sa sb bn mt pa ob tb fo rv ro tk ov sh tu rk cb rlo rhi rl rg tf kn tl th tv) H → va_D A (wC q cI cJ cZ nr wd sg lw hg fr to sn pl kd tg sa sb bn mt pa ob tb fo rv ro tk ov sh tu rk cb rlo rhi rl rg tf kn tl th tv) → va_S A s.heap H locs → lv_has ls 2 [(0, .ref (q 0)), (1, .int x1)] → k x1 = some RES → W p l e rmX7_canMend s m args below meth c H locs 0 0 (QI below args s A (dC, dI) (ty3 cI cJ cZ) RES (wC q cI cJ cZ nr wd sg lw hg fr to sn pl kd tg sa sb bn mt pa ob tb fo rv ro tk ov sh tu rk cb rlo rhi rl rg tf kn tl th tv)) (F0 m 2 ls [])
set_option maxHeartbeats 4000000 in
set_option maxRecDepth 100000 in
theorem zX7_canMend_L2 {p : Program} {l : Launch} {e : Env} {s : State} {m : MethodId} {args : Array Value} {below : List Frame} {meth : Method} {c : Code} {A : Nat → Prop} {dC : Nat → ClassId} {dI : Nat → Nat → Nat} {q : Nat → Nat} {cI cJ cZ : ClassId} {nr : Int32} {wd : Nat → Int32} {sg : Nat → Int32} {lw : Nat → Int64} {hg : Nat → Int64} {fr : Nat → Int32} {to : Nat → Int32} {sn : Int32} {pl : Int32} {kd : Nat → Int32} {tg : Nat → Int32} {sa : Nat → Int32} {sb : Nat → Int32} {bn : Nat → Int32} {mt : Nat → Int32} {pa : Nat → Int32} {ob : Int32} {tb : Int32} {fo : Int32} {rv : Nat → Int64} {ro : Int32} {tk : Int32} {ov : Nat → Int32} {sh : Nat → Int32} {tu : Nat → Int32} {rk : Int32} {cb : Int32} {rlo : Int64} {rhi : Int64} {rl : Nat → Int64} {rg : Nat → Int64} {tf : Int32} {kn : Int32} {tl : Nat → Int64} {th : Nat → Int64} {tv : Nat → Int64}  (C0 : Cx p s m args meth c cX7_canMend 2 (some .boolean) RX7 wsX7_canMend A (dC, dI) (ty3 cI cJ cZ)) {RES : Int32}  : ∀ n : Nat, iX7_canMend_L2 p l e s m args below meth c A dC dI q cI cJ cZ nr wd sg lw hg fr to sn pl kd tg sa sb bn mt pa ob tb fo rv ro tk ov sh tu rk cb rlo rhi rl rg tf kn tl th tv RES (mX7_canMend_L2 sg tf tl th n) := by
  have C1 := C0
  obtain ⟨hx, hb, hr, hml, hown, hts, hlocks, hN, hK, hA⟩ := C1
  intro n
  induction n with
  | zero =>
    intro x1 H locs ls hP hD hS hl hres
    exact mi_0 hres
  | succ n ih =>
    intro x1 H locs ls hP hD hS hl hres
    rw [mX7_canMend_L2] at hres
    refine lv_iload_n hx hb dX7_canMend_2 rfl (lv_at hl 1 rfl) ?_
    refine lv_bipush (v := (6 : Int32)) hx hb dX7_canMend_3 (by decide) ?_
    refine lv_icmp_ge (tgt := 25) hx hb dX7_canMend_5 (by decide) (fun c_1 => ?_) (fun c_1 => ?_)
    · replace hres := mi_p c_1 hres
      refine lv_iconst (v := (1 : Int32)) hx hb dX7_canMend_25 (by decide) ?_
      obtain rfl := Option.some.inj hres
      exact ret_I (r := (1 : Int32)) C0 rfl hP hD hS dX7_canMend_26
    · replace hres := mi_n c_1 hres
      refine lv_aload_n hx hb dX7_canMend_8 rfl (lv_at hl 0 rfl) ?_
      refine lv_iload_n hx hb dX7_canMend_9 rfl (lv_at hl 1 rfl) ?_
      obtain ⟨u2, hu2, hres⟩ := mi_b hres
      refine call_I C0 (run_V C0 (rest := []) (kX7_needed l dC dI q cI cJ cZ nr wd sg lw hg fr to sn pl kd tg sa sb bn mt pa ob tb fo rv ro tk ov sh tu rk cb rlo rhi rl rg tf kn tl th tv  x1 u2 hu2 _) (cwV 1 hts gX7_canMend_X7_needed rfl rfl rfl (by decide +kernel) ⟨by decide, by decide⟩) hP hD (ci := 7) (q0 := 0) rfl rfl rfl hl.1 rfl (Nat.le_of_ble_eq_true rfl) dX7_canMend_10) hD hS (fun H locs hP hD hS => ?_)
      refine lv_iconst (v := (-1 : Int32)) hx hb dX7_canMend_13 (by decide) ?_
      refine lv_icmp_ne (tgt := 19) hx hb dX7_canMend_14 (by decide) (fun c_3 => ?_) (fun c_3 => ?_)
      · replace hres := mi_n c_3 hres
        refine lv_iinc (v := x1 + (1 : Int32)) (lv' := [(1, .int (x1 + (1 : Int32))), (0, .ref (q 0))]) hx hb dX7_canMend_19 hl (k := 1) rfl rfl (by decide) rfl (fun ls hl => ?_)
        refine lv_goto (tgt := 2) hx hb dX7_canMend_22 (by decide) ?_
        exact ih (x1 + (1 : Int32)) _ _ ls hP hD hS (lv_sub hl [1, 0] rfl) hres
      · replace hres := mi_p c_3 hres
        refine lv_iconst (v := (0 : Int32)) hx hb dX7_canMend_17 (by decide) ?_
        obtain rfl := Option.some.inj hres
        exact ret_I (r := (0 : Int32)) C0 rfl hP hD hS dX7_canMend_18
set_option maxHeartbeats 4000000 in
set_option maxRecDepth 100000 in
theorem kX7_canMend (l : Launch) (dC : Nat → ClassId) (dI : Nat → Nat → Nat) (q : Nat → Nat) (cI cJ cZ : ClassId) (nr : Int32) (wd : Nat → Int32) (sg : Nat → Int32) (lw : Nat → Int64) (hg : Nat → Int64) (fr : Nat → Int32) (to : Nat → Int32) (sn : Int32) (pl : Int32) (kd : Nat → Int32) (tg : Nat → Int32) (sa : Nat → Int32) (sb : Nat → Int32) (bn : Nat → Int32) (mt : Nat → Int32) (pa : Nat → Int32) (ob : Int32) (tb : Int32) (fo : Int32) (rv : Nat → Int64) (ro : Int32) (tk : Int32) (ov : Nat → Int32) (sh : Nat → Int32) (tu : Nat → Int32) (rk : Int32) (cb : Int32) (rlo : Int64) (rhi : Int64) (rl : Nat → Int64) (rg : Nat → Int64) (tf : Int32) (kn : Int32) (tl : Nat → Int64) (th : Nat → Int64) (tv : Nat → Int64)  (RES : Int32) (hres : mX7_canMend sg tf tl th = some RES) : CtI l yX7_canMend wsX7_canMend rmX7_canMend (dC, dI) (ty3 cI cJ cZ) (wC q cI cJ cZ nr wd sg lw hg fr to sn pl kd tg sa sb bn mt pa ob tb fo rv ro tk ov sh tu rk cb rlo rhi rl rg tf kn tl th tv) [.ref (q 0)] RES (wC q cI cJ cZ nr wd sg lw hg fr to sn pl kd tg sa sb bn mt pa ob tb fo rv ro tk ov sh tu rk cb rlo rhi rl rg tf kn tl th tv) := by
  intro sz
  refine ct_entry (cc := cX7_canMend) (maxL := 2) (ret := some .boolean) (own := RX7) (by decide) rfl rfl (Nat.le_of_ble_eq_true rfl) (ll := [(0, .ref (q 0))]) rfl ?_
  intro p e s m args below meth c hsz C0 _ hP hD ls hl
  have C1 := C0
  obtain ⟨hx, hb, hr, hml, hown, hts, hlocks, hN, hK, hA⟩ := C1
  have hS : va_S (va_A (wC q cI cJ cZ nr wd sg lw hg fr to sn pl kd tg sa sb bn mt pa ob tb fo rv ro tk ov sh tu rk cb rlo rhi rl rg tf kn tl th tv) sz) s.heap s.heap [] := va_S.rf
  generalize va_A (wC q cI cJ cZ nr wd sg lw hg fr to sn pl kd tg sa sb bn mt pa ob tb fo rv ro tk ov sh tu rk cb rlo rhi rl rg tf kn tl th tv) sz = A at C0 hD hA hS ⊢
  show W p l e rmX7_canMend s m args below meth c s.heap [] 0 0 (QI below args s A (dC, dI) (ty3 cI cJ cZ) RES (wC q cI cJ cZ nr wd sg lw hg fr to sn pl kd tg sa sb bn mt pa ob tb fo rv ro tk ov sh tu rk cb rlo rhi rl rg tf kn tl th tv)) (F0 m 0 ls [])
  unfold mX7_canMend at hres
  refine lv_iconst (v := (0 : Int32)) hx hb dX7_canMend_0 (by decide) ?_
  refine lv_istore_n (lv' := [(1, .int (0 : Int32)), (0, .ref (q 0))]) hx hb dX7_canMend_1 rfl hl (by decide) rfl (fun ls hl => ?_)
  exact zX7_canMend_L2 C0  FU (0 : Int32) _ _ ls hP hD hS (lv_sub hl [1, 0] rfl) hres
