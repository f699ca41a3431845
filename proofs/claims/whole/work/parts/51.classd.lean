/-! ### SumsOver.price()I -/
set_option maxRecDepth 20000 in
theorem hwX7_price_RX7 : ∀ w ∈ u_ws RX7 TX7 7, w ∈ wsX7_price := by decide +kernel
theorem mwX7_price_0 : (.fieldLink RX7 62 "SumsOver" "trues" "LSumsOver$Trues;" : Cond) ∈ wsX7_price := by decide +kernel
theorem mwX7_price_1 : (.fieldLink RX7 10 "SumsOver" "names" "LSumsOver$Names;" : Cond) ∈ wsX7_price := by decide +kernel
set_option maxRecDepth 20000 in
theorem hwX7_price_RX1 : ∀ w ∈ u_ws RX1 TX1 5, w ∈ wsX7_price := by decide +kernel
theorem mwX7_price_2 : (.fieldLink RX7 162 "SumsOver$Names" "widths" "[I" : Cond) ∈ wsX7_price := by decide +kernel
theorem mwX7_price_3 : (.methodLink RX7 165 Lib.Math.max.name : Cond) ∈ wsX7_price := by decide +kernel
theorem mwX7_price_4 : (.static Lib.Math.max.name : Cond) ∈ wsX7_price := by decide +kernel
theorem mwX7_price_5 : (.initialized "java/lang/Math" : Cond) ∈ wsX7_price := by decide +kernel
theorem mwX7_price_6 : (.code Lib.Math.max.name Lib.Math.max.code 2 (some .int) : Cond) ∈ wsX7_price := by decide +kernel
def rmX7_price : Room := { frames := 5, cells := 0, slots := 0, locals := 118 }
def iX7_price_L20 (p : Program) (l : Launch) (e : Env) (s : State) (m : MethodId) (args : Array Value) (below : List Frame) (meth : Method) (c : Code) (A : Nat → Prop) (dC : Nat → ClassId) (dI : Nat → Nat → Nat) (q : Nat → Nat) (cI cJ cZ : ClassId) (nr : Int32) (wd : Nat → Int32) (sg : Nat → Int32) (lw : Nat → Int64) (hg : Nat → Int64) (fr : Nat → Int32) (to : Nat → Int32) (sn : Int32) (pl : Int32) (kd : Nat → Int32) (tg : Nat → Int32) (sa : Nat → Int32) (sb : Nat → Int32) (bn : Nat → Int32) (mt : Nat → Int32) (pa : Nat → Int32) (ob : Int32) (tb : Int32) (fo : Int32) (rv : Nat → Int64) (ro : Int32) (tk : Int32) (ov : Nat → Int32) (sh : Nat → Int32) (tu : Nat → Int32) (rk : Int32) (cb : Int32) (rlo : Int64) (rhi : Int64) (rl : Nat → Int64) (rg : Nat → Int64)  (RES : Int32 × (Int32) × (Int32) × (Nat → Int64) × (Nat → Int64) × (Nat → Int64)) (k : (Int32) → (Int32) → (Nat → Int64) → (Nat → Int64) → (Nat → Int64) → (Int32) → (Int32) → Option (Int32 × (Int32) × (Int32) × (Nat → Int64) × (Nat → Int64) × (Nat → Int64))) : Prop := ∀ (tf : Int32) (kn : Int32) (tl : Nat → Int64) (th : Nat → Int64) (tv : Nat → Int64) (x1 : Int32) (x2 : Int32) (H : Heap) (locs : List Loc) (ls : Array Slot), va_P (dC, dI) vwCl (wC q cI cJ cZ nr wd sg lw hg fr to sn pl kd tg sa sb bn mt pa ob tb fo rv ro tk ov sh tu rk cb rlo rhi rl rg tf kn tl th tv) H → va_D A (wC q cI cJ cZ nr wd sg lw hg fr to sn pl kd tg sa sb bn mt pa ob tb fo rv ro tk ov sh tu rk cb rlo rhi rl rg tf kn tl th tv) → va_S A s.heap H locs → lv_has ls 3 [(0, .ref (q 0)), (1, .int x1), (2, .int x2)] → k tf kn tl th tv x1 x2 = some RES → W p l e rmX7_price s m args below meth c H locs 0 0 (QI below args s A (dC, dI) (ty3 cI cJ cZ) RES.1 (wC q cI cJ cZ nr wd sg lw hg fr to sn pl kd tg sa sb bn mt pa ob tb fo rv ro tk ov sh tu rk cb rlo rhi rl rg RES.2.1 RES.2.2.1 RES.2.2.2.1 RES.2.2.2.2.1 RES.2.2.2.2.2)) (F0 m 20 ls [])
set_option maxHeartbeats 4000000 in
set_option maxRecDepth 100000 in
theorem zX7_price_L20 {p : Program} {l : Launch} {e : Env} {s : State} {m : MethodId} {args : Array Value} {below : List Frame} {meth : Method} {c : Code} {A : Nat → Prop} {dC : Nat → ClassId} {dI : Nat → Nat → Nat} {q : Nat → Nat} {cI cJ cZ : ClassId} {nr : Int32} {wd : Nat → Int32} {sg : Nat → Int32} {lw : Nat → Int64} {hg : Nat → Int64} {fr : Nat → Int32} {to : Nat → Int32} {sn : Int32} {pl : Int32} {kd : Nat → Int32} {tg : Nat → Int32} {sa : Nat → Int32} {sb : Nat → Int32} {bn : Nat → Int32} {mt : Nat → Int32} {pa : Nat → Int32} {ob : Int32} {tb : Int32} {fo : Int32} {rv : Nat → Int64} {ro : Int32} {tk : Int32} {ov : Nat → Int32} {sh : Nat → Int32} {tu : Nat → Int32} {rk : Int32} {cb : Int32} {rlo : Int64} {rhi : Int64} {rl : Nat → Int64} {rg : Nat → Int64}  (C0 : Cx p s m args meth c cX7_price 3 (some .int) RX7 wsX7_price A (dC, dI) (ty3 cI cJ cZ)) {RES : Int32 × (Int32) × (Int32) × (Nat → Int64) × (Nat → Int64) × (Nat → Int64)}  : ∀ n : Nat, iX7_price_L20 p l e s m args below meth c A dC dI q cI cJ cZ nr wd sg lw hg fr to sn pl kd tg sa sb bn mt pa ob tb fo rv ro tk ov sh tu rk cb rlo rhi rl rg RES (mX7_price_L20 wd sg fr to pl kd tg sa sb bn pa n) := by
  have C1 := C0
  obtain ⟨hx, hb, hr, hml, hown, hts, hlocks, hN, hK, hA⟩ := C1
  intro n
  induction n with
  | zero =>
    intro tf kn tl th tv x1 x2 H locs ls hP hD hS hl hres
    exact mi_0 hres
  | succ n ih =>
    intro tf kn tl th tv x1 x2 H locs ls hP hD hS hl hres
    rw [mX7_price_L20] at hres
    refine lv_iload_n hx hb dX7_price_20 rfl (lv_at hl 2 rfl) ?_
    refine lv_bipush (v := (6 : Int32)) hx hb dX7_price_21 (by decide) ?_
    refine lv_icmp_ge (tgt := 54) hx hb dX7_price_23 (by decide) (fun c_4 => ?_) (fun c_4 => ?_)
    · replace hres := mi_p c_4 hres
      refine lv_iload_n hx hb dX7_price_54 rfl (lv_at hl 1 rfl) ?_
      obtain rfl := Option.some.inj hres
      exact ret_I (r := x1) C0 rfl hP hD hS dX7_price_55
    · replace hres := mi_n c_4 hres
      refine lv_iload_n hx hb dX7_price_26 rfl (lv_at hl 1 rfl) ?_
      refine lv_iconst (v := (0 : Int32)) hx hb dX7_price_27 (by decide) ?_
      refine lv_aload_n hx hb dX7_price_28 rfl (lv_at hl 0 rfl) ?_
      refine lv_iload_n hx hb dX7_price_29 rfl (lv_at hl 2 rfl) ?_
      obtain ⟨u5, hu5, hres⟩ := mi_b hres
      refine call_I C0 (run_V C0 (rest := [.int (0 : Int32), .int x1]) (kX7_needed l dC dI q cI cJ cZ nr wd sg lw hg fr to sn pl kd tg sa sb bn mt pa ob tb fo rv ro tk ov sh tu rk cb rlo rhi rl rg tf kn tl th tv  x2 u5 hu5 _) (cwV 1 hts gX7_price_X7_needed rfl rfl rfl (by decide +kernel) ⟨by decide, by decide⟩) hP hD (ci := 7) (q0 := 0) rfl rfl rfl hl.1 rfl (Nat.le_of_ble_eq_true rfl) dX7_price_30) hD hS (fun H locs hP hD hS => ?_)
      refine lv_aload_n hx hb dX7_price_33 rfl (lv_at hl 0 rfl) ?_
      refine va_get (D := (dC, dI)) (ci := 7) (v := .ref (q 1)) (C := RX7) (T := TX7) (N := 7) hx hb hts hwX7_price_RX7 hown hK hP 0 rfl rfl 0 (by decide) (hts _ mwX7_price_1) (fun _ h9 => h9) rfl dX7_price_34 ?_
      refine va_get (D := (dC, dI)) (ci := 1) (v := .ref (q 2)) (C := RX1) (T := TX1) (N := 5) hx hb hts hwX7_price_RX1 hown hK hP 1 rfl rfl 0 (by decide) (hts _ mwX7_price_2) (fun _ h9 => h9) rfl dX7_price_37 ?_
      refine lv_iload_n hx hb dX7_price_40 rfl (lv_at hl 2 rfl) ?_
      obtain ⟨g_6, hres⟩ := mi_g hres
      refine va_iald (D := (dC, dI)) (cl := vwCl) hx hb hK hP 2 0 rfl rfl g_6 dX7_price_41 ?_
      refine lv_isub hx hb dX7_price_42 ?_
      refine va_mmax hx hb (hml.trans hl.1.symm) hown (hts _ mwX7_price_3) (hts _ mwX7_price_4) (hts _ mwX7_price_5) (hts _ mwX7_price_6) (Nat.le_of_ble_eq_true rfl) (Nat.le_of_ble_eq_true rfl) (Nat.zero_le _) (Nat.zero_le _) dX7_price_43 ?_
      refine lv_iadd hx hb dX7_price_46 ?_
      refine lv_istore_n (lv' := [(1, .int (x1 + (if (0 : Int32) < (u5 - (wd (Int32.toNatClampNeg x2))) then (u5 - (wd (Int32.toNatClampNeg x2))) else (0 : Int32)))), (0, .ref (q 0)), (2, .int x2)]) hx hb dX7_price_47 rfl hl (by decide) rfl (fun ls hl => ?_)
      refine lv_iinc (v := x2 + (1 : Int32)) (lv' := [(2, .int (x2 + (1 : Int32))), (1, .int (x1 + (if (0 : Int32) < (u5 - (wd (Int32.toNatClampNeg x2))) then (u5 - (wd (Int32.toNatClampNeg x2))) else (0 : Int32)))), (0, .ref (q 0))]) hx hb dX7_price_48 hl (k := 2) rfl rfl (by decide) rfl (fun ls hl => ?_)
      refine lv_goto (tgt := 20) hx hb dX7_price_51 (by decide) ?_
      exact ih tf kn tl th tv (x1 + (if (0 : Int32) < (u5 - (wd (Int32.toNatClampNeg x2))) then (u5 - (wd (Int32.toNatClampNeg x2))) else (0 : Int32))) (x2 + (1 : Int32)) _ _ ls hP hD hS (lv_sub hl [2, 1, 0] rfl) hres
set_option maxHeartbeats 4000000 in
set_option maxRecDepth 100000 in
theorem kX7_price (l : Launch) (dC : Nat → ClassId) (dI : Nat → Nat → Nat) (q : Nat → Nat) (cI cJ cZ : ClassId) (nr : Int32) (wd : Nat → Int32) (sg : Nat → Int32) (lw : Nat → Int64) (hg : Nat → Int64) (fr : Nat → Int32) (to : Nat → Int32) (sn : Int32) (pl : Int32) (kd : Nat → Int32) (tg : Nat → Int32) (sa : Nat → Int32) (sb : Nat → Int32) (bn : Nat → Int32) (mt : Nat → Int32) (pa : Nat → Int32) (ob : Int32) (tb : Int32) (fo : Int32) (rv : Nat → Int64) (ro : Int32) (tk : Int32) (ov : Nat → Int32) (sh : Nat → Int32) (tu : Nat → Int32) (rk : Int32) (cb : Int32) (rlo : Int64) (rhi : Int64) (rl : Nat → Int64) (rg : Nat → Int64) (tf : Int32) (kn : Int32) (tl : Nat → Int64) (th : Nat → Int64) (tv : Nat → Int64)  (RES : Int32 × (Int32) × (Int32) × (Nat → Int64) × (Nat → Int64) × (Nat → Int64)) (hres : mX7_price wd sg fr to pl kd tg sa sb bn pa tf kn tl th tv = some RES) : CtI l yX7_price wsX7_price rmX7_price (dC, dI) (ty3 cI cJ cZ) (wC q cI cJ cZ nr wd sg lw hg fr to sn pl kd tg sa sb bn mt pa ob tb fo rv ro tk ov sh tu rk cb rlo rhi rl rg tf kn tl th tv) [.ref (q 0)] RES.1 (wC q cI cJ cZ nr wd sg lw hg fr to sn pl kd tg sa sb bn mt pa ob tb fo rv ro tk ov sh tu rk cb rlo rhi rl rg RES.2.1 RES.2.2.1 RES.2.2.2.1 RES.2.2.2.2.1 RES.2.2.2.2.2) := by
  intro sz
  refine ct_entry (cc := cX7_price) (maxL := 3) (ret := some .int) (own := RX7) (by decide) rfl rfl (Nat.le_of_ble_eq_true rfl) (ll := [(0, .ref (q 0))]) rfl ?_
  intro p e s m args below meth c hsz C0 _ hP hD ls hl
  have C1 := C0
  obtain ⟨hx, hb, hr, hml, hown, hts, hlocks, hN, hK, hA⟩ := C1
  have hS : va_S (va_A (wC q cI cJ cZ nr wd sg lw hg fr to sn pl kd tg sa sb bn mt pa ob tb fo rv ro tk ov sh tu rk cb rlo rhi rl rg tf kn tl th tv) sz) s.heap s.heap [] := va_S.rf
  generalize va_A (wC q cI cJ cZ nr wd sg lw hg fr to sn pl kd tg sa sb bn mt pa ob tb fo rv ro tk ov sh tu rk cb rlo rhi rl rg tf kn tl th tv) sz = A at C0 hD hA hS ⊢
  show W p l e rmX7_price s m args below meth c s.heap [] 0 0 (QI below args s A (dC, dI) (ty3 cI cJ cZ) RES.1 (wC q cI cJ cZ nr wd sg lw hg fr to sn pl kd tg sa sb bn mt pa ob tb fo rv ro tk ov sh tu rk cb rlo rhi rl rg RES.2.1 RES.2.2.1 RES.2.2.2.1 RES.2.2.2.2.1 RES.2.2.2.2.2)) (F0 m 0 ls [])
  unfold mX7_price at hres
  refine lv_aload_n hx hb dX7_price_0 rfl (lv_at hl 0 rfl) ?_
  refine va_get (D := (dC, dI)) (ci := 7) (v := .ref (q 26)) (C := RX7) (T := TX7) (N := 7) hx hb hts hwX7_price_RX7 hown hK hP 0 rfl rfl 6 (by decide) (hts _ mwX7_price_0) (fun _ h9 => h9) rfl dX7_price_1 ?_
  obtain ⟨u1, hu1, hres⟩ := mi_b hres
  refine call_V C0 (run_V C0 (rest := []) (kX6_learn l dC dI q cI cJ cZ nr wd sg lw hg fr to sn pl kd tg sa sb bn mt pa ob tb fo rv ro tk ov sh tu rk cb rlo rhi rl rg tf kn tl th tv   u1 hu1 _) (cwV 0 hts gX7_price_X6_learn rfl rfl rfl (by decide +kernel) ⟨by decide, by decide⟩) hP hD (ci := 6) (q0 := 26) rfl rfl rfl hl.1 rfl (Nat.le_of_ble_eq_true rfl) dX7_price_4) hD hS (fun H locs hP hD hS => ?_)
  refine lv_aload_n hx hb dX7_price_7 rfl (lv_at hl 0 rfl) ?_
  obtain ⟨u2, hu2, hres⟩ := mi_b hres
  refine call_I C0 (run_V C0 (rest := []) (kX7_canMend l dC dI q cI cJ cZ nr wd sg lw hg fr to sn pl kd tg sa sb bn mt pa ob tb fo rv ro tk ov sh tu rk cb rlo rhi rl rg u1.1 u1.2.1 u1.2.2.1 u1.2.2.2.1 u1.2.2.2.2   u2 hu2 _) (cwV 0 hts gX7_price_X7_canMend rfl rfl rfl (by decide +kernel) ⟨by decide, by decide⟩) hP hD (ci := 7) (q0 := 0) rfl rfl rfl hl.1 rfl (Nat.le_of_ble_eq_true rfl) dX7_price_8) hD hS (fun H locs hP hD hS => ?_)
  refine lv_if_ne (tgt := 16) hx hb dX7_price_11 (by decide) (fun c_3 => ?_) (fun c_3 => ?_)
  · replace hres := mi_n c_3 hres
    refine lv_iconst (v := (0 : Int32)) hx hb dX7_price_16 (by decide) ?_
    refine lv_istore_n (lv' := [(1, .int (0 : Int32)), (0, .ref (q 0))]) hx hb dX7_price_17 rfl hl (by decide) rfl (fun ls hl => ?_)
    refine lv_iconst (v := (0 : Int32)) hx hb dX7_price_18 (by decide) ?_
    refine lv_istore_n (lv' := [(2, .int (0 : Int32)), (1, .int (0 : Int32)), (0, .ref (q 0))]) hx hb dX7_price_19 rfl hl (by decide) rfl (fun ls hl => ?_)
    exact zX7_price_L20 C0  FU u1.1 u1.2.1 u1.2.2.1 u1.2.2.2.1 u1.2.2.2.2 (0 : Int32) (0 : Int32) _ _ ls hP hD hS (lv_sub hl [2, 1, 0] rfl) hres
  · replace hres := mi_p c_3 hres
    refine lv_iconst (v := (-1 : Int32)) hx hb dX7_price_14 (by decide) ?_
    obtain rfl := Option.some.inj hres
    exact ret_I (r := (-1 : Int32)) C0 rfl hP hD hS dX7_price_15
/-! ### SumsOver.mend()I -/
set_option maxRecDepth 20000 in
theorem hwX7_mend_RX7 : ∀ w ∈ u_ws RX7 TX7 7, w ∈ wsX7_mend := by decide +kernel
theorem mwX7_mend_0 : (.fieldLink RX7 62 "SumsOver" "trues" "LSumsOver$Trues;" : Cond) ∈ wsX7_mend := by decide +kernel
theorem mwX7_mend_1 : (.fieldLink RX7 10 "SumsOver" "names" "LSumsOver$Names;" : Cond) ∈ wsX7_mend := by decide +kernel
set_option maxRecDepth 20000 in
theorem hwX7_mend_RX1 : ∀ w ∈ u_ws RX1 TX1 5, w ∈ wsX7_mend := by decide +kernel
theorem mwX7_mend_2 : (.fieldLink RX7 162 "SumsOver$Names" "widths" "[I" : Cond) ∈ wsX7_mend := by decide +kernel
theorem mwX7_mend_3 : (.fieldLink RX7 171 "SumsOver$Names" "signs" "[Z" : Cond) ∈ wsX7_mend := by decide +kernel
def rmX7_mend : Room := { frames := 5, cells := 0, slots := 0, locals := 118 }
def iX7_mend_L20 (p : Program) (l : Launch) (e : Env) (s : State) (m : MethodId) (args : Array Value) (below : List Frame) (meth : Method) (c : Code) (A : Nat → Prop) (dC : Nat → ClassId) (dI : Nat → Nat → Nat) (q : Nat → Nat) (cI cJ cZ : ClassId) (nr : Int32) (fr : Nat → Int32) (to : Nat → Int32) (sn : Int32) (pl : Int32) (kd : Nat → Int32) (tg : Nat → Int32) (sa : Nat → Int32) (sb : Nat → Int32) (bn : Nat → Int32) (mt : Nat → Int32) (pa : Nat → Int32) (ob : Int32) (tb : Int32) (fo : Int32) (rv : Nat → Int64) (ro : Int32) (ov : Nat → Int32) (sh : Nat → Int32) (tu : Nat → Int32) (cb : Int32) (rlo : Int64) (rhi : Int64) (rl : Nat → Int64) (rg : Nat → Int64)  (RES : Int32 × (Nat → Int32) × (Nat → Int32) × (Nat → Int64) × (Nat → Int64) × (Int32) × (Int32) × (Int32) × (Int32) × (Nat → Int64) × (Nat → Int64) × (Nat → Int64)) (k : (Nat → Int32) → (Nat → Int32) → (Nat → Int64) → (Nat → Int64) → (Int32) → (Int32) → (Int32) → (Int32) → (Nat → Int64) → (Nat → Int64) → (Nat → Int64) → (Int32) → (Int32) → Option (Int32 × (Nat → Int32) × (Nat → Int32) × (Nat → Int64) × (Nat → Int64) × (Int32) × (Int32) × (Int32) × (Int32) × (Nat → Int64) × (Nat → Int64) × (Nat → Int64))) : Prop := ∀ (wd : Nat → Int32) (sg : Nat → Int32) (lw : Nat → Int64) (hg : Nat → Int64) (tk : Int32) (rk : Int32) (tf : Int32) (kn : Int32) (tl : Nat → Int64) (th : Nat → Int64) (tv : Nat → Int64) (x1 : Int32) (x2 : Int32) (H : Heap) (locs : List Loc) (ls : Array Slot), va_P (dC, dI) vwCl (wC q cI cJ cZ nr wd sg lw hg fr to sn pl kd tg sa sb bn mt pa ob tb fo rv ro tk ov sh tu rk cb rlo rhi rl rg tf kn tl th tv) H → va_D A (wC q cI cJ cZ nr wd sg lw hg fr to sn pl kd tg sa sb bn mt pa ob tb fo rv ro tk ov sh tu rk cb rlo rhi rl rg tf kn tl th tv) → va_S A s.heap H locs → lv_has ls 4 [(0, .ref (q 0)), (1, .int x1), (2, .int x2)] → k wd sg lw hg tk rk tf kn tl th tv x1 x2 = some RES → W p l e rmX7_mend s m args below meth c H locs 0 0 (QI below args s A (dC, dI) (ty3 cI cJ cZ) RES.1 (wC q cI cJ cZ nr RES.2.1 RES.2.2.1 RES.2.2.2.1 RES.2.2.2.2.1 fr to sn pl kd tg sa sb bn mt pa ob tb fo rv ro RES.2.2.2.2.2.1 ov sh tu RES.2.2.2.2.2.2.1 cb rlo rhi rl rg RES.2.2.2.2.2.2.2.1 RES.2.2.2.2.2.2.2.2.1 RES.2.2.2.2.2.2.2.2.2.1 RES.2.2.2.2.2.2.2.2.2.2.1 RES.2.2.2.2.2.2.2.2.2.2.2)) (F0 m 20 ls [])
set_option maxHeartbeats 4000000 in
set_option maxRecDepth 100000 in
theorem zX7_mend_L20 {p : Program} {l : Launch} {e : Env} {s : State} {m : MethodId} {args : Array Value} {below : List Frame} {meth : Method} {c : Code} {A : Nat → Prop} {dC : Nat → ClassId} {dI : Nat → Nat → Nat} {q : Nat → Nat} {cI cJ cZ : ClassId} {nr : Int32} {fr : Nat → Int32} {to : Nat → Int32} {sn : Int32} {pl : Int32} {kd : Nat → Int32} {tg : Nat → Int32} {sa : Nat → Int32} {sb : Nat → Int32} {bn : Nat → Int32} {mt : Nat → Int32} {pa : Nat → Int32} {ob : Int32} {tb : Int32} {fo : Int32} {rv : Nat → Int64} {ro : Int32} {ov : Nat → Int32} {sh : Nat → Int32} {tu : Nat → Int32} {cb : Int32} {rlo : Int64} {rhi : Int64} {rl : Nat → Int64} {rg : Nat → Int64}  (C0 : Cx p s m args meth c cX7_mend 4 (some .int) RX7 wsX7_mend A (dC, dI) (ty3 cI cJ cZ)) {RES : Int32 × (Nat → Int32) × (Nat → Int32) × (Nat → Int64) × (Nat → Int64) × (Int32) × (Int32) × (Int32) × (Int32) × (Nat → Int64) × (Nat → Int64) × (Nat → Int64)}  : ∀ n : Nat, iX7_mend_L20 p l e s m args below meth c A dC dI q cI cJ cZ nr fr to sn pl kd tg sa sb bn mt pa ob tb fo rv ro ov sh tu cb rlo rhi rl rg RES (mX7_mend_L20 fr to pl kd tg sa sb bn pa n) := by
  have C1 := C0
  obtain ⟨hx, hb, hr, hml, hown, hts, hlocks, hN, hK, hA⟩ := C1
  intro n
  induction n with
  | zero =>
    intro wd sg lw hg tk rk tf kn tl th tv x1 x2 H locs ls hP hD hS hl hres
    exact mi_0 hres
  | succ n ih =>
    intro wd sg lw hg tk rk tf kn tl th tv x1 x2 H locs ls hP hD hS hl hres
    rw [mX7_mend_L20] at hres
    refine lv_iload_n hx hb dX7_mend_20 rfl (lv_at hl 2 rfl) ?_
    refine lv_bipush (v := (6 : Int32)) hx hb dX7_mend_21 (by decide) ?_
    refine lv_icmp_ge (tgt := 72) hx hb dX7_mend_23 (by decide) (fun c_4 => ?_) (fun c_4 => ?_)
    · replace hres := mi_p c_4 hres
      refine lv_aload_n hx hb dX7_mend_72 rfl (lv_at hl 0 rfl) ?_
      obtain ⟨u5, hu5, hres⟩ := mi_b hres
      refine call_V C0 (run_V C0 (rest := []) (kX7_forget l dC dI q cI cJ cZ nr wd sg lw hg fr to sn pl kd tg sa sb bn mt pa ob tb fo rv ro tk ov sh tu rk cb rlo rhi rl rg tf kn tl th tv   u5 hu5 _) (cwV 0 hts gX7_mend_X7_forget rfl rfl rfl (by decide +kernel) ⟨by decide, by decide⟩) hP hD (ci := 7) (q0 := 0) rfl rfl rfl hl.1 rfl (Nat.le_of_ble_eq_true rfl) dX7_mend_73) hD hS (fun H locs hP hD hS => ?_)
      refine lv_iload_n hx hb dX7_mend_76 rfl (lv_at hl 1 rfl) ?_
      obtain rfl := Option.some.inj hres
      exact ret_I (r := x1) C0 rfl hP hD hS dX7_mend_77
    · replace hres := mi_n c_4 hres
      refine lv_aload_n hx hb dX7_mend_26 rfl (lv_at hl 0 rfl) ?_
      refine lv_iload_n hx hb dX7_mend_27 rfl (lv_at hl 2 rfl) ?_
      obtain ⟨u6, hu6, hres⟩ := mi_b hres
      refine call_I C0 (run_V C0 (rest := []) (kX7_needed l dC dI q cI cJ cZ nr wd sg lw hg fr to sn pl kd tg sa sb bn mt pa ob tb fo rv ro tk ov sh tu rk cb rlo rhi rl rg tf kn tl th tv  x2 u6 hu6 _) (cwV 1 hts gX7_mend_X7_needed rfl rfl rfl (by decide +kernel) ⟨by decide, by decide⟩) hP hD (ci := 7) (q0 := 0) rfl rfl rfl hl.1 rfl (Nat.le_of_ble_eq_true rfl) dX7_mend_28) hD hS (fun H locs hP hD hS => ?_)
      refine lv_istore_n (lv' := [(3, .int u6), (0, .ref (q 0)), (1, .int x1), (2, .int x2)]) hx hb dX7_mend_31 rfl hl (by decide) rfl (fun ls hl => ?_)
      refine lv_iload_n hx hb dX7_mend_32 rfl (lv_at hl 0 rfl) ?_
      refine lv_aload_n hx hb dX7_mend_33 rfl (lv_at hl 1 rfl) ?_
      refine va_get (D := (dC, dI)) (ci := 7) (v := .ref (q 1)) (C := RX7) (T := TX7) (N := 7) hx hb hts hwX7_mend_RX7 hown hK hP 0 rfl rfl 0 (by decide) (hts _ mwX7_mend_1) (fun _ h9 => h9) rfl dX7_mend_34 ?_
      refine va_get (D := (dC, dI)) (ci := 1) (v := .ref (q 2)) (C := RX1) (T := TX1) (N := 5) hx hb hts hwX7_mend_RX1 hown hK hP 1 rfl rfl 0 (by decide) (hts _ mwX7_mend_2) (fun _ h9 => h9) rfl dX7_mend_37 ?_
      refine lv_iload_n hx hb dX7_mend_40 rfl (lv_at hl 3 rfl) ?_
      obtain ⟨g_7, hres⟩ := mi_g hres
      refine va_iald (D := (dC, dI)) (cl := vwCl) hx hb hK hP 2 0 rfl rfl g_7 dX7_mend_41 ?_
      refine lv_icmp_le (tgt := 66) hx hb dX7_mend_42 (by decide) (fun c_8 => ?_) (fun c_8 => ?_)
      · replace hres := mi_p c_8 hres
        refine lv_iinc (v := x2 + (1 : Int32)) (lv' := [(2, .int (x2 + (1 : Int32))), (3, .int u6), (0, .ref (q 0)), (1, .int x1)]) hx hb dX7_mend_66 hl (k := 3) rfl rfl (by decide) rfl (fun ls hl => ?_)
        refine lv_goto (tgt := 20) hx hb dX7_mend_69 (by decide) ?_
        exact ih wd sg lw hg tk rk tf kn tl th tv x1 (x2 + (1 : Int32)) _ _ ls hP hD hS (lv_sub hl [2, 3, 0] rfl) hres
      · replace hres := mi_n c_8 hres
        refine lv_aload_n hx hb dX7_mend_45 rfl (lv_at hl 1 rfl) ?_
        refine va_get (D := (dC, dI)) (ci := 7) (v := .ref (q 1)) (C := RX7) (T := TX7) (N := 7) hx hb hts hwX7_mend_RX7 hown hK hP 0 rfl rfl 0 (by decide) (hts _ mwX7_mend_1) (fun _ h9 => h9) rfl dX7_mend_46 ?_
        refine lv_iload_n hx hb dX7_mend_49 rfl (lv_at hl 3 rfl) ?_
        refine lv_iload_n hx hb dX7_mend_50 rfl (lv_at hl 0 rfl) ?_
        refine lv_aload_n hx hb dX7_mend_51 rfl (lv_at hl 1 rfl) ?_
        refine va_get (D := (dC, dI)) (ci := 7) (v := .ref (q 1)) (C := RX7) (T := TX7) (N := 7) hx hb hts hwX7_mend_RX7 hown hK hP 0 rfl rfl 0 (by decide) (hts _ mwX7_mend_1) (fun _ h9 => h9) rfl dX7_mend_52 ?_
        refine va_get (D := (dC, dI)) (ci := 1) (v := .ref (q 3)) (C := RX1) (T := TX1) (N := 5) hx hb hts hwX7_mend_RX1 hown hK hP 1 rfl rfl 1 (by decide) (hts _ mwX7_mend_3) (fun _ h9 => h9) rfl dX7_mend_55 ?_
        refine lv_iload_n hx hb dX7_mend_58 rfl (lv_at hl 3 rfl) ?_
        refine va_zald (D := (dC, dI)) (cl := vwCl) hx hb hK hP 3 2 rfl rfl g_7 dX7_mend_59 ?_
        obtain ⟨u9, hu9, hres⟩ := mi_b hres
        refine call_V C0 (run_V C0 (rest := []) (kX1_tell l dC dI q cI cJ cZ nr wd sg lw hg fr to sn pl kd tg sa sb bn mt pa ob tb fo rv ro tk ov sh tu rk cb rlo rhi rl rg tf kn tl th tv  x2 u6 (sg (Int32.toNatClampNeg x2)) u9 hu9 _) (cwV 3 hts gX7_mend_X1_tell rfl rfl rfl (by decide +kernel) ⟨by decide, by decide⟩) hP hD (ci := 1) (q0 := 1) rfl rfl rfl hl.1 rfl (Nat.le_of_ble_eq_true rfl) dX7_mend_60) hD hS (fun H locs hP hD hS => ?_)
        refine lv_iinc (v := x1 + (1 : Int32)) (lv' := [(1, .int (x1 + (1 : Int32))), (3, .int u6), (0, .ref (q 0)), (2, .int x2)]) hx hb dX7_mend_63 hl (k := 2) rfl rfl (by decide) rfl (fun ls hl => ?_)
        refine lv_iinc (v := x2 + (1 : Int32)) (lv' := [(2, .int (x2 + (1 : Int32))), (1, .int (x1 + (1 : Int32))), (3, .int u6), (0, .ref (q 0))]) hx hb dX7_mend_66 hl (k := 3) rfl rfl (by decide) rfl (fun ls hl => ?_)
        refine lv_goto (tgt := 20) hx hb dX7_mend_69 (by decide) ?_
        exact ih u9.1 u9.2.1 u9.2.2.1 u9.2.2.2 tk rk tf kn tl th tv (x1 + (1 : Int32)) (x2 + (1 : Int32)) _ _ ls hP hD hS (lv_sub hl [3, 1, 0] rfl) hres
set_option maxHeartbeats 4000000 in
set_option maxRecDepth 100000 in
theorem kX7_mend (l : Launch) (dC : Nat → ClassId) (dI : Nat → Nat → Nat) (q : Nat → Nat) (cI cJ cZ : ClassId) (nr : Int32) (wd : Nat → Int32) (sg : Nat → Int32) (lw : Nat → Int64) (hg : Nat → Int64) (fr : Nat → Int32) (to : Nat → Int32) (sn : Int32) (pl : Int32) (kd : Nat → Int32) (tg : Nat → Int32) (sa : Nat → Int32) (sb : Nat → Int32) (bn : Nat → Int32) (mt : Nat → Int32) (pa : Nat → Int32) (ob : Int32) (tb : Int32) (fo : Int32) (rv : Nat → Int64) (ro : Int32) (tk : Int32) (ov : Nat → Int32) (sh : Nat → Int32) (tu : Nat → Int32) (rk : Int32) (cb : Int32) (rlo : Int64) (rhi : Int64) (rl : Nat → Int64) (rg : Nat → Int64) (tf : Int32) (kn : Int32) (tl : Nat → Int64) (th : Nat → Int64) (tv : Nat → Int64)  (RES : Int32 × (Nat → Int32) × (Nat → Int32) × (Nat → Int64) × (Nat → Int64) × (Int32) × (Int32) × (Int32) × (Int32) × (Nat → Int64) × (Nat → Int64) × (Nat → Int64)) (hres : mX7_mend wd sg lw hg fr to pl kd tg sa sb bn pa tk rk tf kn tl th tv = some RES) : CtI l yX7_mend wsX7_mend rmX7_mend (dC, dI) (ty3 cI cJ cZ) (wC q cI cJ cZ nr wd sg lw hg fr to sn pl kd tg sa sb bn mt pa ob tb fo rv ro tk ov sh tu rk cb rlo rhi rl rg tf kn tl th tv) [.ref (q 0)] RES.1 (wC q cI cJ cZ nr RES.2.1 RES.2.2.1 RES.2.2.2.1 RES.2.2.2.2.1 fr to sn pl kd tg sa sb bn mt pa ob tb fo rv ro RES.2.2.2.2.2.1 ov sh tu RES.2.2.2.2.2.2.1 cb rlo rhi rl rg RES.2.2.2.2.2.2.2.1 RES.2.2.2.2.2.2.2.2.1 RES.2.2.2.2.2.2.2.2.2.1 RES.2.2.2.2.2.2.2.2.2.2.1 RES.2.2.2.2.2.2.2.2.2.2.2) := by
  intro sz
  refine ct_entry (cc := cX7_mend) (maxL := 4) (ret := some .int) (own := RX7) (by decide) rfl rfl (Nat.le_of_ble_eq_true rfl) (ll := [(0, .ref (q 0))]) rfl ?_
  intro p e s m args below meth c hsz C0 _ hP hD ls hl
  have C1 := C0
  obtain ⟨hx, hb, hr, hml, hown, hts, hlocks, hN, hK, hA⟩ := C1
  have hS : va_S (va_A (wC q cI cJ cZ nr wd sg lw hg fr to sn pl kd tg sa sb bn mt pa ob tb fo rv ro tk ov sh tu rk cb rlo rhi rl rg tf kn tl th tv) sz) s.heap s.heap [] := va_S.rf
  generalize va_A (wC q cI cJ cZ nr wd sg lw hg fr to sn pl kd tg sa sb bn mt pa ob tb fo rv ro tk ov sh tu rk cb rlo rhi rl rg tf kn tl th tv) sz = A at C0 hD hA hS ⊢
  show W p l e rmX7_mend s m args below meth c s.heap [] 0 0 (QI below args s A (dC, dI) (ty3 cI cJ cZ) RES.1 (wC q cI cJ cZ nr RES.2.1 RES.2.2.1 RES.2.2.2.1 RES.2.2.2.2.1 fr to sn pl kd tg sa sb bn mt pa ob tb fo rv ro RES.2.2.2.2.2.1 ov sh tu RES.2.2.2.2.2.2.1 cb rlo rhi rl rg RES.2.2.2.2.2.2.2.1 RES.2.2.2.2.2.2.2.2.1 RES.2.2.2.2.2.2.2.2.2.1 RES.2.2.2.2.2.2.2.2.2.2.1 RES.2.2.2.2.2.2.2.2.2.2.2)) (F0 m 0 ls [])
  unfold mX7_mend at hres
  refine lv_aload_n hx hb dX7_mend_0 rfl (lv_at hl 0 rfl) ?_
  refine va_get (D := (dC, dI)) (ci := 7) (v := .ref (q 26)) (C := RX7) (T := TX7) (N := 7) hx hb hts hwX7_mend_RX7 hown hK hP 0 rfl rfl 6 (by decide) (hts _ mwX7_mend_0) (fun _ h9 => h9) rfl dX7_mend_1 ?_
  obtain ⟨u1, hu1, hres⟩ := mi_b hres
  refine call_V C0 (run_V C0 (rest := []) (kX6_learn l dC dI q cI cJ cZ nr wd sg lw hg fr to sn pl kd tg sa sb bn mt pa ob tb fo rv ro tk ov sh tu rk cb rlo rhi rl rg tf kn tl th tv   u1 hu1 _) (cwV 0 hts gX7_mend_X6_learn rfl rfl rfl (by decide +kernel) ⟨by decide, by decide⟩) hP hD (ci := 6) (q0 := 26) rfl rfl rfl hl.1 rfl (Nat.le_of_ble_eq_true rfl) dX7_mend_4) hD hS (fun H locs hP hD hS => ?_)
  refine lv_aload_n hx hb dX7_mend_7 rfl (lv_at hl 0 rfl) ?_
  obtain ⟨u2, hu2, hres⟩ := mi_b hres
  refine call_I C0 (run_V C0 (rest := []) (kX7_canMend l dC dI q cI cJ cZ nr wd sg lw hg fr to sn pl kd tg sa sb bn mt pa ob tb fo rv ro tk ov sh tu rk cb rlo rhi rl rg u1.1 u1.2.1 u1.2.2.1 u1.2.2.2.1 u1.2.2.2.2   u2 hu2 _) (cwV 0 hts gX7_mend_X7_canMend rfl rfl rfl (by decide +kernel) ⟨by decide, by decide⟩) hP hD (ci := 7) (q0 := 0) rfl rfl rfl hl.1 rfl (Nat.le_of_ble_eq_true rfl) dX7_mend_8) hD hS (fun H locs hP hD hS => ?_)
  refine lv_if_ne (tgt := 16) hx hb dX7_mend_11 (by decide) (fun c_3 => ?_) (fun c_3 => ?_)
  · replace hres := mi_n c_3 hres
    refine lv_iconst (v := (0 : Int32)) hx hb dX7_mend_16 (by decide) ?_
    refine lv_istore_n (lv' := [(1, .int (0 : Int32)), (0, .ref (q 0))]) hx hb dX7_mend_17 rfl hl (by decide) rfl (fun ls hl => ?_)
    refine lv_iconst (v := (0 : Int32)) hx hb dX7_mend_18 (by decide) ?_
    refine lv_istore_n (lv' := [(2, .int (0 : Int32)), (1, .int (0 : Int32)), (0, .ref (q 0))]) hx hb dX7_mend_19 rfl hl (by decide) rfl (fun ls hl => ?_)
    exact zX7_mend_L20 C0  FU wd sg lw hg tk rk u1.1 u1.2.1 u1.2.2.1 u1.2.2.2.1 u1.2.2.2.2 (0 : Int32) (0 : Int32) _ _ ls hP hD hS (lv_sub hl [2, 1, 0] rfl) hres
  · replace hres := mi_p c_3 hres
    refine lv_iconst (v := (-1 : Int32)) hx hb dX7_mend_14 (by decide) ?_
    obtain rfl := Option.some.inj hres
    exact ret_I (r := (-1 : Int32)) C0 rfl hP hD hS dX7_mend_15
/-! ### SumsOver.mean(IZ)Z -/
set_option maxRecDepth 20000 in
theorem hwX7_mean_RX7 : ∀ w ∈ u_ws RX7 TX7 7, w ∈ wsX7_mean := by decide +kernel
theorem mwX7_mean_0 : (.fieldLink RX7 26 "SumsOver" "steps" "LSumsOver$Steps;" : Cond) ∈ wsX7_mean := by decide +kernel
set_option maxRecDepth 20000 in
theorem hwX7_mean_RX4 : ∀ w ∈ u_ws RX4 TX4 9, w ∈ wsX7_mean := by decide +kernel
theorem mwX7_mean_1 : (.fieldLink RX7 175 "SumsOver$Steps" "meant" "[Z" : Cond) ∈ wsX7_mean := by decide +kernel
def rmX7_mean : Room := { frames := 1, cells := 0, slots := 0, locals := 21 }
set_option maxHeartbeats 4000000 in
set_option maxRecDepth 100000 in
theorem kX7_mean (l : Launch) (dC : Nat → ClassId) (dI : Nat → Nat → Nat) (q : Nat → Nat) (cI cJ cZ : ClassId) (nr : Int32) (wd : Nat → Int32) (sg : Nat → Int32) (lw : Nat → Int64) (hg : Nat → Int64) (fr : Nat → Int32) (to : Nat → Int32) (sn : Int32) (pl : Int32) (kd : Nat → Int32) (tg : Nat → Int32) (sa : Nat → Int32) (sb : Nat → Int32) (bn : Nat → Int32) (mt : Nat → Int32) (pa : Nat → Int32) (ob : Int32) (tb : Int32) (fo : Int32) (rv : Nat → Int64) (ro : Int32) (tk : Int32) (ov : Nat → Int32) (sh : Nat → Int32) (tu : Nat → Int32) (rk : Int32) (cb : Int32) (rlo : Int64) (rhi : Int64) (rl : Nat → Int64) (rg : Nat → Int64) (tf : Int32) (kn : Int32) (tl : Nat → Int64) (th : Nat → Int64) (tv : Nat → Int64) (x1 : Int32) (x2 : Int32) (RES : Int32 × (Nat → Int32)) (hres : mX7_mean sn mt x1 x2 = some RES) : CtI l yX7_mean wsX7_mean rmX7_mean (dC, dI) (ty3 cI cJ cZ) (wC q cI cJ cZ nr wd sg lw hg fr to sn pl kd tg sa sb bn mt pa ob tb fo rv ro tk ov sh tu rk cb rlo rhi rl rg tf kn tl th tv) [.ref (q 0), .int x1, .int x2] RES.1 (wC q cI cJ cZ nr wd sg lw hg fr to sn pl kd tg sa sb bn RES.2 pa ob tb fo rv ro tk ov sh tu rk cb rlo rhi rl rg tf kn tl th tv) := by
  intro sz
  refine ct_entry (cc := cX7_mean) (maxL := 3) (ret := some .boolean) (own := RX7) (by decide) rfl rfl (Nat.le_of_ble_eq_true rfl) (ll := [(0, .ref (q 0)), (1, .int x1), (2, .int x2)]) rfl ?_
  intro p e s m args below meth c hsz C0 _ hP hD ls hl
  have C1 := C0
  obtain ⟨hx, hb, hr, hml, hown, hts, hlocks, hN, hK, hA⟩ := C1
  have hS : va_S (va_A (wC q cI cJ cZ nr wd sg lw hg fr to sn pl kd tg sa sb bn mt pa ob tb fo rv ro tk ov sh tu rk cb rlo rhi rl rg tf kn tl th tv) sz) s.heap s.heap [] := va_S.rf
  generalize va_A (wC q cI cJ cZ nr wd sg lw hg fr to sn pl kd tg sa sb bn mt pa ob tb fo rv ro tk ov sh tu rk cb rlo rhi rl rg tf kn tl th tv) sz = A at C0 hD hA hS ⊢
  show W p l e rmX7_mean s m args below meth c s.heap [] 0 0 (QI below args s A (dC, dI) (ty3 cI cJ cZ) RES.1 (wC q cI cJ cZ nr wd sg lw hg fr to sn pl kd tg sa sb bn RES.2 pa ob tb fo rv ro tk ov sh tu rk cb rlo rhi rl rg tf kn tl th tv)) (F0 m 0 ls [])
  unfold mX7_mean at hres
  refine lv_aload_n hx hb dX7_mean_0 rfl (lv_at hl 0 rfl) ?_
  refine lv_iload_n hx hb dX7_mean_1 rfl (lv_at hl 1 rfl) ?_
  obtain ⟨u1, hu1, hres⟩ := mi_b hres
  refine call_I C0 (run_V C0 (rest := []) (kX7_isStep l dC dI q cI cJ cZ nr wd sg lw hg fr to sn pl kd tg sa sb bn mt pa ob tb fo rv ro tk ov sh tu rk cb rlo rhi rl rg tf kn tl th tv  x1 u1 hu1 _) (cwV 1 hts gX7_mean_X7_isStep rfl rfl rfl (by decide +kernel) ⟨by decide, by decide⟩) hP hD (ci := 7) (q0 := 0) rfl rfl rfl hl.1 rfl (Nat.le_of_ble_eq_true rfl) dX7_mean_2) hD hS (fun H locs hP hD hS => ?_)
  refine lv_if_eq (tgt := 21) hx hb dX7_mean_5 (by decide) (fun c_2 => ?_) (fun c_2 => ?_)
  · replace hres := mi_p c_2 hres
    refine lv_iconst (v := (0 : Int32)) hx hb dX7_mean_21 (by decide) ?_
    obtain rfl := Option.some.inj hres
    exact ret_I (r := (0 : Int32)) C0 rfl hP hD hS dX7_mean_22
  · replace hres := mi_n c_2 hres
    refine lv_aload_n hx hb dX7_mean_8 rfl (lv_at hl 0 rfl) ?_
    refine va_get (D := (dC, dI)) (ci := 7) (v := .ref (q 9)) (C := RX7) (T := TX7) (N := 7) hx hb hts hwX7_mean_RX7 hown hK hP 0 rfl rfl 2 (by decide) (hts _ mwX7_mean_0) (fun _ h9 => h9) rfl dX7_mean_9 ?_
    refine va_get (D := (dC, dI)) (ci := 4) (v := .ref (q 15)) (C := RX4) (T := TX4) (N := 9) hx hb hts hwX7_mean_RX4 hown hK hP 9 rfl rfl 5 (by decide) (hts _ mwX7_mean_1) (fun _ h9 => h9) rfl dX7_mean_12 ?_
    refine lv_iload_n hx hb dX7_mean_15 rfl (lv_at hl 1 rfl) ?_
    obtain ⟨g_3, hres⟩ := mi_g hres
    refine va_zald (D := (dC, dI)) (cl := vwCl) hx hb hK hP 15 2 rfl rfl g_3 dX7_mean_16 ?_
    refine lv_iload_n hx hb dX7_mean_17 rfl (lv_at hl 2 rfl) ?_
    refine lv_icmp_ne (tgt := 23) hx hb dX7_mean_18 (by decide) (fun c_4 => ?_) (fun c_4 => ?_)
    · replace hres := mi_n c_4 hres
      refine lv_aload_n hx hb dX7_mean_23 rfl (lv_at hl 0 rfl) ?_
      refine va_get (D := (dC, dI)) (ci := 7) (v := .ref (q 9)) (C := RX7) (T := TX7) (N := 7) hx hb hts hwX7_mean_RX7 hown hK hP 0 rfl rfl 2 (by decide) (hts _ mwX7_mean_0) (fun _ h9 => h9) rfl dX7_mean_24 ?_
      refine va_get (D := (dC, dI)) (ci := 4) (v := .ref (q 15)) (C := RX4) (T := TX4) (N := 9) hx hb hts hwX7_mean_RX4 hown hK hP 9 rfl rfl 5 (by decide) (hts _ mwX7_mean_1) (fun _ h9 => h9) rfl dX7_mean_27 ?_
      refine lv_iload_n hx hb dX7_mean_30 rfl (lv_at hl 1 rfl) ?_
      refine lv_iload_n hx hb dX7_mean_31 rfl (lv_at hl 2 rfl) ?_
      refine va_zast (D := (dC, dI)) (cl := vwCl) hx hb hK hP hD hS 15 2 rfl rfl g_3 dX7_mean_32 (fun H locs hP hD hS => ?_)
      have hP : va_P (dC, dI) vwCl (wC q cI cJ cZ nr wd sg lw hg fr to sn pl kd tg sa sb bn (upd mt (Int32.toNatClampNeg x1) (vp_nar .boolean x2)) pa ob tb fo rv ro tk ov sh tu rk cb rlo rhi rl rg tf kn tl th tv) H := hP
      have hD : va_D A (wC q cI cJ cZ nr wd sg lw hg fr to sn pl kd tg sa sb bn (upd mt (Int32.toNatClampNeg x1) (vp_nar .boolean x2)) pa ob tb fo rv ro tk ov sh tu rk cb rlo rhi rl rg tf kn tl th tv) := hD
      refine lv_iconst (v := (1 : Int32)) hx hb dX7_mean_33 (by decide) ?_
      obtain rfl := Option.some.inj hres
      exact ret_I (r := (1 : Int32)) C0 rfl hP hD hS dX7_mean_34
    · replace hres := mi_p c_4 hres
      refine lv_iconst (v := (0 : Int32)) hx hb dX7_mean_21 (by decide) ?_
      obtain rfl := Option.some.inj hres
      exact ret_I (r := (0 : Int32)) C0 rfl hP hD hS dX7_mean_22
/-! ### SumsOver.isListed(I)Z -/
set_option maxRecDepth 20000 in
theorem hwX7_isListed_RX7 : ∀ w ∈ u_ws RX7 TX7 7, w ∈ wsX7_isListed := by decide +kernel
theorem mwX7_isListed_0 : (.fieldLink RX7 26 "SumsOver" "steps" "LSumsOver$Steps;" : Cond) ∈ wsX7_isListed := by decide +kernel
set_option maxRecDepth 20000 in
theorem hwX7_isListed_RX4 : ∀ w ∈ u_ws RX4 TX4 9, w ∈ wsX7_isListed := by decide +kernel
theorem mwX7_isListed_1 : (.fieldLink RX7 175 "SumsOver$Steps" "meant" "[Z" : Cond) ∈ wsX7_isListed := by decide +kernel
def rmX7_isListed : Room := { frames := 2, cells := 0, slots := 0, locals := 42 }
set_option maxHeartbeats 4000000 in
set_option maxRecDepth 100000 in
theorem kX7_isListed (l : Launch) (dC : Nat → ClassId) (dI : Nat → Nat → Nat) (q : Nat → Nat) (cI cJ cZ : ClassId) (nr : Int32) (wd : Nat → Int32) (sg : Nat → Int32) (lw : Nat → Int64) (hg : Nat → Int64) (fr : Nat → Int32) (to : Nat → Int32) (sn : Int32) (pl : Int32) (kd : Nat → Int32) (tg : Nat → Int32) (sa : Nat → Int32) (sb : Nat → Int32) (bn : Nat → Int32) (mt : Nat → Int32) (pa : Nat → Int32) (ob : Int32) (tb : Int32) (fo : Int32) (rv : Nat → Int64) (ro : Int32) (tk : Int32) (ov : Nat → Int32) (sh : Nat → Int32) (tu : Nat → Int32) (rk : Int32) (cb : Int32) (rlo : Int64) (rhi : Int64) (rl : Nat → Int64) (rg : Nat → Int64) (tf : Int32) (kn : Int32) (tl : Nat → Int64) (th : Nat → Int64) (tv : Nat → Int64) (x1 : Int32) (RES : Int32) (hres : mX7_isListed fr to mt ov cb x1 = some RES) : CtI l yX7_isListed wsX7_isListed rmX7_isListed (dC, dI) (ty3 cI cJ cZ) (wC q cI cJ cZ nr wd sg lw hg fr to sn pl kd tg sa sb bn mt pa ob tb fo rv ro tk ov sh tu rk cb rlo rhi rl rg tf kn tl th tv) [.ref (q 0), .int x1] RES (wC q cI cJ cZ nr wd sg lw hg fr to sn pl kd tg sa sb bn mt pa ob tb fo rv ro tk ov sh tu rk cb rlo rhi rl rg tf kn tl th tv) := by
  intro sz
  refine ct_entry (cc := cX7_isListed) (maxL := 2) (ret := some .boolean) (own := RX7) (by decide) rfl rfl (Nat.le_of_ble_eq_true rfl) (ll := [(0, .ref (q 0)), (1, .int x1)]) rfl ?_
  intro p e s m args below meth c hsz C0 _ hP hD ls hl
  have C1 := C0
  obtain ⟨hx, hb, hr, hml, hown, hts, hlocks, hN, hK, hA⟩ := C1
  have hS : va_S (va_A (wC q cI cJ cZ nr wd sg lw hg fr to sn pl kd tg sa sb bn mt pa ob tb fo rv ro tk ov sh tu rk cb rlo rhi rl rg tf kn tl th tv) sz) s.heap s.heap [] := va_S.rf
  generalize va_A (wC q cI cJ cZ nr wd sg lw hg fr to sn pl kd tg sa sb bn mt pa ob tb fo rv ro tk ov sh tu rk cb rlo rhi rl rg tf kn tl th tv) sz = A at C0 hD hA hS ⊢
  show W p l e rmX7_isListed s m args below meth c s.heap [] 0 0 (QI below args s A (dC, dI) (ty3 cI cJ cZ) RES (wC q cI cJ cZ nr wd sg lw hg fr to sn pl kd tg sa sb bn mt pa ob tb fo rv ro tk ov sh tu rk cb rlo rhi rl rg tf kn tl th tv)) (F0 m 0 ls [])
  unfold mX7_isListed at hres
  refine lv_aload_n hx hb dX7_isListed_0 rfl (lv_at hl 0 rfl) ?_
  refine va_get (D := (dC, dI)) (ci := 7) (v := .ref (q 9)) (C := RX7) (T := TX7) (N := 7) hx hb hts hwX7_isListed_RX7 hown hK hP 0 rfl rfl 2 (by decide) (hts _ mwX7_isListed_0) (fun _ h9 => h9) rfl dX7_isListed_1 ?_
  refine va_get (D := (dC, dI)) (ci := 4) (v := .ref (q 15)) (C := RX4) (T := TX4) (N := 9) hx hb hts hwX7_isListed_RX4 hown hK hP 9 rfl rfl 5 (by decide) (hts _ mwX7_isListed_1) (fun _ h9 => h9) rfl dX7_isListed_4 ?_
  refine lv_iload_n hx hb dX7_isListed_7 rfl (lv_at hl 1 rfl) ?_
  obtain ⟨g_1, hres⟩ := mi_g hres
  refine va_zald (D := (dC, dI)) (cl := vwCl) hx hb hK hP 15 2 rfl rfl g_1 dX7_isListed_8 ?_
  refine lv_if_ne (tgt := 25) hx hb dX7_isListed_9 (by decide) (fun c_2 => ?_) (fun c_2 => ?_)
  · replace hres := mi_n c_2 hres
    refine lv_iconst (v := (0 : Int32)) hx hb dX7_isListed_25 (by decide) ?_
    obtain rfl := Option.some.inj hres
    exact ret_I (r := (0 : Int32)) C0 rfl hP hD hS dX7_isListed_26
  · replace hres := mi_p c_2 hres
    refine lv_aload_n hx hb dX7_isListed_12 rfl (lv_at hl 0 rfl) ?_
    refine lv_iload_n hx hb dX7_isListed_13 rfl (lv_at hl 1 rfl) ?_
    obtain ⟨u3, hu3, hres⟩ := mi_b hres
    refine call_I C0 (run_V C0 (rest := []) (kX7_judged l dC dI q cI cJ cZ nr wd sg lw hg fr to sn pl kd tg sa sb bn mt pa ob tb fo rv ro tk ov sh tu rk cb rlo rhi rl rg tf kn tl th tv  x1 u3 hu3 _) (cwV 1 hts gX7_isListed_X7_judged rfl rfl rfl (by decide +kernel) ⟨by decide, by decide⟩) hP hD (ci := 7) (q0 := 0) rfl rfl rfl hl.1 rfl (Nat.le_of_ble_eq_true rfl) dX7_isListed_14) hD hS (fun H locs hP hD hS => ?_)
    refine lv_iconst (v := (2 : Int32)) hx hb dX7_isListed_17 (by decide) ?_
    refine lv_icmp_lt (tgt := 25) hx hb dX7_isListed_18 (by decide) (fun c_4 => ?_) (fun c_4 => ?_)
    · replace hres := mi_p c_4 hres
      refine lv_iconst (v := (0 : Int32)) hx hb dX7_isListed_25 (by decide) ?_
      obtain rfl := Option.some.inj hres
      exact ret_I (r := (0 : Int32)) C0 rfl hP hD hS dX7_isListed_26
    · replace hres := mi_n c_4 hres
      refine lv_iconst (v := (1 : Int32)) hx hb dX7_isListed_21 (by decide) ?_
      refine lv_goto (tgt := 26) hx hb dX7_isListed_22 (by decide) ?_
      obtain rfl := Option.some.inj hres
      exact ret_I (r := (1 : Int32)) C0 rfl hP hD hS dX7_isListed_26
/-! ### SumsOver.comesBefore(II)Z -/
set_option maxRecDepth 20000 in
theorem hwX7_comesBefore_RX7 : ∀ w ∈ u_ws RX7 TX7 7, w ∈ wsX7_comesBefore := by decide +kernel
theorem mwX7_comesBefore_0 : (.fieldLink RX7 44 "SumsOver" "tally" "LSumsOver$Tally;" : Cond) ∈ wsX7_comesBefore := by decide +kernel
set_option maxRecDepth 20000 in
theorem hwX7_comesBefore_RX5 : ∀ w ∈ u_ws RX5 TX5 7, w ∈ wsX7_comesBefore := by decide +kernel
theorem mwX7_comesBefore_1 : (.fieldLink RX7 136 "SumsOver$Tally" "over" "[I" : Cond) ∈ wsX7_comesBefore := by decide +kernel
def rmX7_comesBefore : Room := { frames := 0, cells := 0, slots := 0, locals := 0 }
set_option maxHeartbeats 4000000 in
set_option maxRecDepth 100000 in
theorem kX7_comesBefore (l : Launch) (dC : Nat → ClassId) (dI : Nat → Nat → Nat) (q : Nat → Nat) (cI cJ cZ : ClassId) (nr : Int32) (wd : Nat → Int32) (sg : Nat → Int32) (lw : Nat → Int64) (hg : Nat → Int64) (fr : Nat → Int32) (to : Nat → Int32) (sn : Int32) (pl : Int32) (kd : Nat → Int32) (tg : Nat → Int32) (sa : Nat → Int32) (sb : Nat → Int32) (bn : Nat → Int32) (mt : Nat → Int32) (pa : Nat → Int32) (ob : Int32) (tb : Int32) (fo : Int32) (rv : Nat → Int64) (ro : Int32) (tk : Int32) (ov : Nat → Int32) (sh : Nat → Int32) (tu : Nat → Int32) (rk : Int32) (cb : Int32) (rlo : Int64) (rhi : Int64) (rl : Nat → Int64) (rg : Nat → Int64) (tf : Int32) (kn : Int32) (tl : Nat → Int64) (th : Nat → Int64) (tv : Nat → Int64) (x1 : Int32) (x2 : Int32) (RES : Int32) (hres : mX7_comesBefore ov x1 x2 = some RES) : CtI l yX7_comesBefore wsX7_comesBefore rmX7_comesBefore (dC, dI) (ty3 cI cJ cZ) (wC q cI cJ cZ nr wd sg lw hg fr to sn pl kd tg sa sb bn mt pa ob tb fo rv ro tk ov sh tu rk cb rlo rhi rl rg tf kn tl th tv) [.ref (q 0), .int x1, .int x2] RES (wC q cI cJ cZ nr wd sg lw hg fr to sn pl kd tg sa sb bn mt pa ob tb fo rv ro tk ov sh tu rk cb rlo rhi rl rg tf kn tl th tv) := by
  intro sz
  refine ct_entry (cc := cX7_comesBefore) (maxL := 3) (ret := some .boolean) (own := RX7) (by decide) rfl rfl (Nat.le_of_ble_eq_true rfl) (ll := [(0, .ref (q 0)), (1, .int x1), (2, .int x2)]) rfl ?_
  intro p e s m args below meth c hsz C0 _ hP hD ls hl
  have C1 := C0
  obtain ⟨hx, hb, hr, hml, hown, hts, hlocks, hN, hK, hA⟩ := C1
  have hS : va_S (va_A (wC q cI cJ cZ nr wd sg lw hg fr to sn pl kd tg sa sb bn mt pa ob tb fo rv ro tk ov sh tu rk cb rlo rhi rl rg tf kn tl th tv) sz) s.heap s.heap [] := va_S.rf
  generalize va_A (wC q cI cJ cZ nr wd sg lw hg fr to sn pl kd tg sa sb bn mt pa ob tb fo rv ro tk ov sh tu rk cb rlo rhi rl rg tf kn tl th tv) sz = A at C0 hD hA hS ⊢
  show W p l e rmX7_comesBefore s m args below meth c s.heap [] 0 0 (QI below args s A (dC, dI) (ty3 cI cJ cZ) RES (wC q cI cJ cZ nr wd sg lw hg fr to sn pl kd tg sa sb bn mt pa ob tb fo rv ro tk ov sh tu rk cb rlo rhi rl rg tf kn tl th tv)) (F0 m 0 ls [])
  unfold mX7_comesBefore at hres
  refine lv_aload_n hx hb dX7_comesBefore_0 rfl (lv_at hl 0 rfl) ?_
  refine va_get (D := (dC, dI)) (ci := 7) (v := .ref (q 19)) (C := RX7) (T := TX7) (N := 7) hx hb hts hwX7_comesBefore_RX7 hown hK hP 0 rfl rfl 4 (by decide) (hts _ mwX7_comesBefore_0) (fun _ h9 => h9) rfl dX7_comesBefore_1 ?_
  refine va_get (D := (dC, dI)) (ci := 5) (v := .ref (q 20)) (C := RX5) (T := TX5) (N := 7) hx hb hts hwX7_comesBefore_RX5 hown hK hP 19 rfl rfl 0 (by decide) (hts _ mwX7_comesBefore_1) (fun _ h9 => h9) rfl dX7_comesBefore_4 ?_
  refine lv_iload_n hx hb dX7_comesBefore_7 rfl (lv_at hl 1 rfl) ?_
  obtain ⟨g_1, hres⟩ := mi_g hres
  refine va_iald (D := (dC, dI)) (cl := vwCl) hx hb hK hP 20 0 rfl rfl g_1 dX7_comesBefore_8 ?_
  refine lv_aload_n hx hb dX7_comesBefore_9 rfl (lv_at hl 0 rfl) ?_
  refine va_get (D := (dC, dI)) (ci := 7) (v := .ref (q 19)) (C := RX7) (T := TX7) (N := 7) hx hb hts hwX7_comesBefore_RX7 hown hK hP 0 rfl rfl 4 (by decide) (hts _ mwX7_comesBefore_0) (fun _ h9 => h9) rfl dX7_comesBefore_10 ?_
  refine va_get (D := (dC, dI)) (ci := 5) (v := .ref (q 20)) (C := RX5) (T := TX5) (N := 7) hx hb hts hwX7_comesBefore_RX5 hown hK hP 19 rfl rfl 0 (by decide) (hts _ mwX7_comesBefore_1) (fun _ h9 => h9) rfl dX7_comesBefore_13 ?_
  refine lv_iload_n hx hb dX7_comesBefore_16 rfl (lv_at hl 2 rfl) ?_
  obtain ⟨g_2, hres⟩ := mi_g hres
  refine va_iald (D := (dC, dI)) (cl := vwCl) hx hb hK hP 20 0 rfl rfl g_2 dX7_comesBefore_17 ?_
  refine lv_icmp_eq (tgt := 48) hx hb dX7_comesBefore_18 (by decide) (fun c_3 => ?_) (fun c_3 => ?_)
  · replace hres := mi_p c_3 hres
    refine lv_iload_n hx hb dX7_comesBefore_48 rfl (lv_at hl 1 rfl) ?_
    refine lv_iload_n hx hb dX7_comesBefore_49 rfl (lv_at hl 2 rfl) ?_
    refine lv_icmp_ge (tgt := 57) hx hb dX7_comesBefore_50 (by decide) (fun c_4 => ?_) (fun c_4 => ?_)
    · replace hres := mi_p c_4 hres
      refine lv_iconst (v := (0 : Int32)) hx hb dX7_comesBefore_57 (by decide) ?_
      obtain rfl := Option.some.inj hres
      exact ret_I (r := (0 : Int32)) C0 rfl hP hD hS dX7_comesBefore_58
    · replace hres := mi_n c_4 hres
      refine lv_iconst (v := (1 : Int32)) hx hb dX7_comesBefore_53 (by decide) ?_
      refine lv_goto (tgt := 58) hx hb dX7_comesBefore_54 (by decide) ?_
      obtain rfl := Option.some.inj hres
      exact ret_I (r := (1 : Int32)) C0 rfl hP hD hS dX7_comesBefore_58
  · replace hres := mi_n c_3 hres
    refine lv_aload_n hx hb dX7_comesBefore_21 rfl (lv_at hl 0 rfl) ?_
    refine va_get (D := (dC, dI)) (ci := 7) (v := .ref (q 19)) (C := RX7) (T := TX7) (N := 7) hx hb hts hwX7_comesBefore_RX7 hown hK hP 0 rfl rfl 4 (by decide) (hts _ mwX7_comesBefore_0) (fun _ h9 => h9) rfl dX7_comesBefore_22 ?_
    refine va_get (D := (dC, dI)) (ci := 5) (v := .ref (q 20)) (C := RX5) (T := TX5) (N := 7) hx hb hts hwX7_comesBefore_RX5 hown hK hP 19 rfl rfl 0 (by decide) (hts _ mwX7_comesBefore_1) (fun _ h9 => h9) rfl dX7_comesBefore_25 ?_
    refine lv_iload_n hx hb dX7_comesBefore_28 rfl (lv_at hl 1 rfl) ?_
    refine va_iald (D := (dC, dI)) (cl := vwCl) hx hb hK hP 20 0 rfl rfl g_1 dX7_comesBefore_29 ?_
    refine lv_aload_n hx hb dX7_comesBefore_30 rfl (lv_at hl 0 rfl) ?_
    refine va_get (D := (dC, dI)) (ci := 7) (v := .ref (q 19)) (C := RX7) (T := TX7) (N := 7) hx hb hts hwX7_comesBefore_RX7 hown hK hP 0 rfl rfl 4 (by decide) (hts _ mwX7_comesBefore_0) (fun _ h9 => h9) rfl dX7_comesBefore_31 ?_
    refine va_get (D := (dC, dI)) (ci := 5) (v := .ref (q 20)) (C := RX5) (T := TX5) (N := 7) hx hb hts hwX7_comesBefore_RX5 hown hK hP 19 rfl rfl 0 (by decide) (hts _ mwX7_comesBefore_1) (fun _ h9 => h9) rfl dX7_comesBefore_34 ?_
    refine lv_iload_n hx hb dX7_comesBefore_37 rfl (lv_at hl 2 rfl) ?_
    refine va_iald (D := (dC, dI)) (cl := vwCl) hx hb hK hP 20 0 rfl rfl g_2 dX7_comesBefore_38 ?_
    refine lv_icmp_le (tgt := 46) hx hb dX7_comesBefore_39 (by decide) (fun c_5 => ?_) (fun c_5 => ?_)
    · replace hres := mi_p c_5 hres
      refine lv_iconst (v := (0 : Int32)) hx hb dX7_comesBefore_46 (by decide) ?_
      obtain rfl := Option.some.inj hres
      exact ret_I (r := (0 : Int32)) C0 rfl hP hD hS dX7_comesBefore_47
    · replace hres := mi_n c_5 hres
      refine lv_iconst (v := (1 : Int32)) hx hb dX7_comesBefore_42 (by decide) ?_
      refine lv_goto (tgt := 47) hx hb dX7_comesBefore_43 (by decide) ?_
      obtain rfl := Option.some.inj hres
      exact ret_I (r := (1 : Int32)) C0 rfl hP hD hS dX7_comesBefore_47
/-! ### SumsOver.listedBefore(I)I -/
set_option maxRecDepth 20000 in
theorem hwX7_listedBefore_RX7 : ∀ w ∈ u_ws RX7 TX7 7, w ∈ wsX7_listedBefore := by decide +kernel
theorem mwX7_listedBefore_0 : (.fieldLink RX7 26 "SumsOver" "steps" "LSumsOver$Steps;" : Cond) ∈ wsX7_listedBefore := by decide +kernel
set_option maxRecDepth 20000 in
theorem hwX7_listedBefore_RX4 : ∀ w ∈ u_ws RX4 TX4 9, w ∈ wsX7_listedBefore := by decide +kernel
theorem mwX7_listedBefore_1 : (.fieldLink RX7 87 "SumsOver$Steps" "size" "I" : Cond) ∈ wsX7_listedBefore := by decide +kernel
def rmX7_listedBefore : Room := { frames := 3, cells := 0, slots := 0, locals := 63 }
def iX7_listedBefore_L4 (p : Program) (l : Launch) (e : Env) (s : State) (m : MethodId) (args : Array Value) (below : List Frame) (meth : Method) (c : Code) (A : Nat → Prop) (dC : Nat → ClassId) (dI : Nat → Nat → Nat) (q : Nat → Nat) (cI cJ cZ : ClassId) (nr : Int32) (wd : Nat → Int32) (sg : Nat → Int32) (lw : Nat → Int64) (hg : Nat → Int64) (fr : Nat → Int32) (to : Nat → Int32) (sn : Int32) (pl : Int32) (kd : Nat → Int32) (tg : Nat → Int32) (sa : Nat → Int32) (sb : Nat → Int32) (bn : Nat → Int32) (mt : Nat → Int32) (pa : Nat → Int32) (ob : Int32) (tb : Int32) (fo : Int32) (rv : Nat → Int64) (ro : Int32) (tk : Int32) (ov : Nat → Int32) (sh : Nat → Int32) (tu : Nat → Int32) (rk : Int32) (cb : Int32) (rlo : Int64) (rhi : Int64) (rl : Nat → Int64) (rg : Nat → Int64) (tf : Int32) (kn : Int32) (tl : Nat → Int64) (th : Nat → Int64) (tv : Nat → Int64)  (RES : Int32) (k : (Int32) → (Int32) → (Int32) → Option (Int32)) : Prop := ∀ (x1 : Int32) (x2 : Int32) (x3 : Int32) (H : Heap) (locs : List Loc) (ls : Array Slot), va_P (dC, dI) vwCl (wC q cI cJ cZ nr wd sg lw hg fr to sn pl kd tg sa sb bn mt pa ob tb fo rv ro tk ov sh tu rk cb rlo rhi rl rg tf kn tl th tv) H → va_D A (wC q cI cJ cZ nr wd sg lw hg fr to sn pl kd tg sa sb bn mt pa ob tb fo rv ro tk ov sh tu rk cb rlo rhi rl rg tf kn tl th tv) → va_S A s.heap H locs → lv_has ls 4 [(0, .ref (q 0)), (1, .int x1), (2, .int x2), (3, .int x3)] → k x1 x2 x3 = some RES → W p l e rmX7_listedBefore s m args below meth c H locs 0 0 (QI below args s A (dC, dI) (ty3 cI cJ cZ) RES (wC q cI cJ cZ nr wd sg lw hg fr to sn pl kd tg sa sb bn mt pa ob tb fo rv ro tk ov sh tu rk cb rlo rhi rl rg tf kn tl th tv)) (F0 m 4 ls [])
set_option maxHeartbeats 4000000 in
set_option maxRecDepth 100000 in
theorem zX7_listedBefore_L4 {p : Program} {l : Launch} {e : Env} {s : State} {m : MethodId} {args : Array Value} {below : List Frame} {meth : Method} {c : Code} {A : Nat → Prop} {dC : Nat → ClassId} {dI : Nat → Nat → Nat} {q : Nat → Nat} {cI cJ cZ : ClassId} {nr : Int32} {wd : Nat → Int32} {sg : Nat → Int32} {lw : Nat → Int64} {hg : Nat → Int64} {fr : Nat → Int32} {to : Nat → Int32} {sn : Int32} {pl : Int32} {kd : Nat → Int32} {tg : Nat → Int32} {sa : Nat → Int32} {sb : Nat → Int32} {bn : Nat → Int32} {mt : Nat → Int32} {pa : Nat → Int32} {ob : Int32} {tb : Int32} {fo : Int32} {rv : Nat → Int64} {ro : Int32} {tk : Int32} {ov : Nat → Int32} {sh : Nat → Int32} {tu : Nat → Int32} {rk : Int32} {cb : Int32} {rlo : Int64} {rhi : Int64} {rl : Nat → Int64} {rg : Nat → Int64} {tf : Int32} {kn : Int32} {tl : Nat → Int64} {th : Nat → Int64} {tv : Nat → Int64}  (C0 : Cx p s m args meth c cX7_listedBefore 4 (some .int) RX7 wsX7_listedBefore A (dC, dI) (ty3 cI cJ cZ)) {RES : Int32}  : ∀ n : Nat, iX7_listedBefore_L4 p l e s m args below meth c A dC dI q cI cJ cZ nr wd sg lw hg fr to sn pl kd tg sa sb bn mt pa ob tb fo rv ro tk ov sh tu rk cb rlo rhi rl rg tf kn tl th tv RES (mX7_listedBefore_L4 fr to sn mt ov cb n) := by
  have C1 := C0
  obtain ⟨hx, hb, hr, hml, hown, hts, hlocks, hN, hK, hA⟩ := C1
  intro n
  induction n with
  | zero =>
    intro x1 x2 x3 H locs ls hP hD hS hl hres
    exact mi_0 hres
  | succ n ih =>
    intro x1 x2 x3 H locs ls hP hD hS hl hres
    rw [mX7_listedBefore_L4] at hres
    refine lv_iload_n hx hb dX7_listedBefore_4 rfl (lv_at hl 3 rfl) ?_
    refine lv_aload_n hx hb dX7_listedBefore_5 rfl (lv_at hl 0 rfl) ?_
    refine va_get (D := (dC, dI)) (ci := 7) (v := .ref (q 9)) (C := RX7) (T := TX7) (N := 7) hx hb hts hwX7_listedBefore_RX7 hown hK hP 0 rfl rfl 2 (by decide) (hts _ mwX7_listedBefore_0) (fun _ h9 => h9) rfl dX7_listedBefore_6 ?_
    refine va_get (D := (dC, dI)) (ci := 4) (v := .int sn) (C := RX4) (T := TX4) (N := 9) hx hb hts hwX7_listedBefore_RX4 hown hK hP 9 rfl rfl 6 (by decide) (hts _ mwX7_listedBefore_1) (fun _ h9 => h9) rfl dX7_listedBefore_9 ?_
    refine lv_icmp_ge (tgt := 41) hx hb dX7_listedBefore_12 (by decide) (fun c_1 => ?_) (fun c_1 => ?_)
    · replace hres := mi_p c_1 hres
      refine lv_iload_n hx hb dX7_listedBefore_41 rfl (lv_at hl 2 rfl) ?_
      obtain rfl := Option.some.inj hres
      exact ret_I (r := x2) C0 rfl hP hD hS dX7_listedBefore_42
    · replace hres := mi_n c_1 hres
      refine lv_aload_n hx hb dX7_listedBefore_15 rfl (lv_at hl 0 rfl) ?_
      refine lv_iload_n hx hb dX7_listedBefore_16 rfl (lv_at hl 3 rfl) ?_
      obtain ⟨u2, hu2, hres⟩ := mi_b hres
      refine call_I C0 (run_V C0 (rest := []) (kX7_isListed l dC dI q cI cJ cZ nr wd sg lw hg fr to sn pl kd tg sa sb bn mt pa ob tb fo rv ro tk ov sh tu rk cb rlo rhi rl rg tf kn tl th tv  x3 u2 hu2 _) (cwV 1 hts gX7_listedBefore_X7_isListed rfl rfl rfl (by decide +kernel) ⟨by decide, by decide⟩) hP hD (ci := 7) (q0 := 0) rfl rfl rfl hl.1 rfl (Nat.le_of_ble_eq_true rfl) dX7_listedBefore_17) hD hS (fun H locs hP hD hS => ?_)
      refine lv_if_eq (tgt := 35) hx hb dX7_listedBefore_20 (by decide) (fun c_3 => ?_) (fun c_3 => ?_)
      · replace hres := mi_p c_3 hres
        refine lv_iinc (v := x3 + (1 : Int32)) (lv' := [(3, .int (x3 + (1 : Int32))), (0, .ref (q 0)), (1, .int x1), (2, .int x2)]) hx hb dX7_listedBefore_35 hl (k := 3) rfl rfl (by decide) rfl (fun ls hl => ?_)
        refine lv_goto (tgt := 4) hx hb dX7_listedBefore_38 (by decide) ?_
        exact ih x1 x2 (x3 + (1 : Int32)) _ _ ls hP hD hS (lv_sub hl [1, 2, 3, 0] rfl) hres
      · replace hres := mi_n c_3 hres
        refine lv_aload_n hx hb dX7_listedBefore_23 rfl (lv_at hl 0 rfl) ?_
        refine lv_iload_n hx hb dX7_listedBefore_24 rfl (lv_at hl 3 rfl) ?_
        refine lv_iload_n hx hb dX7_listedBefore_25 rfl (lv_at hl 1 rfl) ?_
        obtain ⟨u4, hu4, hres⟩ := mi_b hres
        refine call_I C0 (run_V C0 (rest := []) (kX7_comesBefore l dC dI q cI cJ cZ nr wd sg lw hg fr to sn pl kd tg sa sb bn mt pa ob tb fo rv ro tk ov sh tu rk cb rlo rhi rl rg tf kn tl th tv  x3 x1 u4 hu4 _) (cwV 2 hts gX7_listedBefore_X7_comesBefore rfl rfl rfl (by decide +kernel) ⟨by decide, by decide⟩) hP hD (ci := 7) (q0 := 0) rfl rfl rfl hl.1 rfl (Nat.le_of_ble_eq_true rfl) dX7_listedBefore_26) hD hS (fun H locs hP hD hS => ?_)
        refine lv_if_eq (tgt := 35) hx hb dX7_listedBefore_29 (by decide) (fun c_5 => ?_) (fun c_5 => ?_)
        · replace hres := mi_p c_5 hres
          refine lv_iinc (v := x3 + (1 : Int32)) (lv' := [(3, .int (x3 + (1 : Int32))), (0, .ref (q 0)), (1, .int x1), (2, .int x2)]) hx hb dX7_listedBefore_35 hl (k := 3) rfl rfl (by decide) rfl (fun ls hl => ?_)
          refine lv_goto (tgt := 4) hx hb dX7_listedBefore_38 (by decide) ?_
          exact ih x1 x2 (x3 + (1 : Int32)) _ _ ls hP hD hS (lv_sub hl [1, 2, 3, 0] rfl) hres
        · replace hres := mi_n c_5 hres
          refine lv_iinc (v := x2 + (1 : Int32)) (lv' := [(2, .int (x2 + (1 : Int32))), (0, .ref (q 0)), (1, .int x1), (3, .int x3)]) hx hb dX7_listedBefore_32 hl (k := 2) rfl rfl (by decide) rfl (fun ls hl => ?_)
          refine lv_iinc (v := x3 + (1 : Int32)) (lv' := [(3, .int (x3 + (1 : Int32))), (2, .int (x2 + (1 : Int32))), (0, .ref (q 0)), (1, .int x1)]) hx hb dX7_listedBefore_35 hl (k := 3) rfl rfl (by decide) rfl (fun ls hl => ?_)
          refine lv_goto (tgt := 4) hx hb dX7_listedBefore_38 (by decide) ?_
          exact ih x1 (x2 + (1 : Int32)) (x3 + (1 : Int32)) _ _ ls hP hD hS (lv_sub hl [2, 3, 1, 0] rfl) hres
set_option maxHeartbeats 4000000 in
set_option maxRecDepth 100000 in
theorem kX7_listedBefore (l : Launch) (dC : Nat → ClassId) (dI : Nat → Nat → Nat) (q : Nat → Nat) (cI cJ cZ : ClassId) (nr : Int32) (wd : Nat → Int32) (sg : Nat → Int32) (lw : Nat → Int64) (hg : Nat → Int64) (fr : Nat → Int32) (to : Nat → Int32) (sn : Int32) (pl : Int32) (kd : Nat → Int32) (tg : Nat → Int32) (sa : Nat → Int32) (sb : Nat → Int32) (bn : Nat → Int32) (mt : Nat → Int32) (pa : Nat → Int32) (ob : Int32) (tb : Int32) (fo : Int32) (rv : Nat → Int64) (ro : Int32) (tk : Int32) (ov : Nat → Int32) (sh : Nat → Int32) (tu : Nat → Int32) (rk : Int32) (cb : Int32) (rlo : Int64) (rhi : Int64) (rl : Nat → Int64) (rg : Nat → Int64) (tf : Int32) (kn : Int32) (tl : Nat → Int64) (th : Nat → Int64) (tv : Nat → Int64) (x1 : Int32) (RES : Int32) (hres : mX7_listedBefore fr to sn mt ov cb x1 = some RES) : CtI l yX7_listedBefore wsX7_listedBefore rmX7_listedBefore (dC, dI) (ty3 cI cJ cZ) (wC q cI cJ cZ nr wd sg lw hg fr to sn pl kd tg sa sb bn mt pa ob tb fo rv ro tk ov sh tu rk cb rlo rhi rl rg tf kn tl th tv) [.ref (q 0), .int x1] RES (wC q cI cJ cZ nr wd sg lw hg fr to sn pl kd tg sa sb bn mt pa ob tb fo rv ro tk ov sh tu rk cb rlo rhi rl rg tf kn tl th tv) := by
  intro sz
  refine ct_entry (cc := cX7_listedBefore) (maxL := 4) (ret := some .int) (own := RX7) (by decide) rfl rfl (Nat.le_of_ble_eq_true rfl) (ll := [(0, .ref (q 0)), (1, .int x1)]) rfl ?_
  intro p e s m args below meth c hsz C0 _ hP hD ls hl
  have C1 := C0
  obtain ⟨hx, hb, hr, hml, hown, hts, hlocks, hN, hK, hA⟩ := C1
  have hS : va_S (va_A (wC q cI cJ cZ nr wd sg lw hg fr to sn pl kd tg sa sb bn mt pa ob tb fo rv ro tk ov sh tu rk cb rlo rhi rl rg tf kn tl th tv) sz) s.heap s.heap [] := va_S.rf
  generalize va_A (wC q cI cJ cZ nr wd sg lw hg fr to sn pl kd tg sa sb bn mt pa ob tb fo rv ro tk ov sh tu rk cb rlo rhi rl rg tf kn tl th tv) sz = A at C0 hD hA hS ⊢
  show W p l e rmX7_listedBefore s m args below meth c s.heap [] 0 0 (QI below args s A (dC, dI) (ty3 cI cJ cZ) RES (wC q cI cJ cZ nr wd sg lw hg fr to sn pl kd tg sa sb bn mt pa ob tb fo rv ro tk ov sh tu rk cb rlo rhi rl rg tf kn tl th tv)) (F0 m 0 ls [])
  unfold mX7_listedBefore at hres
  refine lv_iconst (v := (0 : Int32)) hx hb dX7_listedBefore_0 (by decide) ?_
  refine lv_istore_n (lv' := [(2, .int (0 : Int32)), (0, .ref (q 0)), (1, .int x1)]) hx hb dX7_listedBefore_1 rfl hl (by decide) rfl (fun ls hl => ?_)
  refine lv_iconst (v := (0 : Int32)) hx hb dX7_listedBefore_2 (by decide) ?_
  refine lv_istore_n (lv' := [(3, .int (0 : Int32)), (2, .int (0 : Int32)), (0, .ref (q 0)), (1, .int x1)]) hx hb dX7_listedBefore_3 rfl hl (by decide) rfl (fun ls hl => ?_)
  exact zX7_listedBefore_L4 C0  FU x1 (0 : Int32) (0 : Int32) _ _ ls hP hD hS (lv_sub hl [2, 3, 1, 0] rfl) hres
/-! ### SumsOver.listed(I)I -/
set_option maxRecDepth 20000 in
theorem hwX7_listed_RX7 : ∀ w ∈ u_ws RX7 TX7 7, w ∈ wsX7_listed := by decide +kernel
theorem mwX7_listed_0 : (.fieldLink RX7 53 "SumsOver" "reach" "LSumsOver$Reach;" : Cond) ∈ wsX7_listed := by decide +kernel
theorem mwX7_listed_1 : (.fieldLink RX7 44 "SumsOver" "tally" "LSumsOver$Tally;" : Cond) ∈ wsX7_listed := by decide +kernel
theorem mwX7_listed_2 : (.fieldLink RX7 26 "SumsOver" "steps" "LSumsOver$Steps;" : Cond) ∈ wsX7_listed := by decide +kernel
set_option maxRecDepth 20000 in
theorem hwX7_listed_RX4 : ∀ w ∈ u_ws RX4 TX4 9, w ∈ wsX7_listed := by decide +kernel
theorem mwX7_listed_3 : (.fieldLink RX7 87 "SumsOver$Steps" "size" "I" : Cond) ∈ wsX7_listed := by decide +kernel
def rmX7_listed : Room := { frames := 6, cells := 0, slots := 0, locals := 149 }
def iX7_listed_L16 (p : Program) (l : Launch) (e : Env) (s : State) (m : MethodId) (args : Array Value) (below : List Frame) (meth : Method) (c : Code) (A : Nat → Prop) (dC : Nat → ClassId) (dI : Nat → Nat → Nat) (q : Nat → Nat) (cI cJ cZ : ClassId) (nr : Int32) (wd : Nat → Int32) (sg : Nat → Int32) (lw : Nat → Int64) (hg : Nat → Int64) (fr : Nat → Int32) (to : Nat → Int32) (sn : Int32) (pl : Int32) (kd : Nat → Int32) (tg : Nat → Int32) (sa : Nat → Int32) (sb : Nat → Int32) (bn : Nat → Int32) (mt : Nat → Int32) (pa : Nat → Int32) (tf : Int32) (kn : Int32) (tl : Nat → Int64) (th : Nat → Int64) (tv : Nat → Int64)  (RES : Int32 × (Int32) × (Int32) × (Int32) × (Nat → Int64) × (Int32) × (Int32) × (Nat → Int32) × (Nat → Int32) × (Nat → Int32) × (Int32) × (Int32) × (Int64) × (Int64) × (Nat → Int64) × (Nat → Int64)) (k : (Int32) → (Int32) → (Int32) → (Nat → Int64) → (Int32) → (Int32) → (Nat → Int32) → (Nat → Int32) → (Nat → Int32) → (Int32) → (Int32) → (Int64) → (Int64) → (Nat → Int64) → (Nat → Int64) → (Int32) → (Int32) → Option (Int32 × (Int32) × (Int32) × (Int32) × (Nat → Int64) × (Int32) × (Int32) × (Nat → Int32) × (Nat → Int32) × (Nat → Int32) × (Int32) × (Int32) × (Int64) × (Int64) × (Nat → Int64) × (Nat → Int64))) : Prop := ∀ (ob : Int32) (tb : Int32) (fo : Int32) (rv : Nat → Int64) (ro : Int32) (tk : Int32) (ov : Nat → Int32) (sh : Nat → Int32) (tu : Nat → Int32) (rk : Int32) (cb : Int32) (rlo : Int64) (rhi : Int64) (rl : Nat → Int64) (rg : Nat → Int64) (x1 : Int32) (x2 : Int32) (H : Heap) (locs : List Loc) (ls : Array Slot), va_P (dC, dI) vwCl (wC q cI cJ cZ nr wd sg lw hg fr to sn pl kd tg sa sb bn mt pa ob tb fo rv ro tk ov sh tu rk cb rlo rhi rl rg tf kn tl th tv) H → va_D A (wC q cI cJ cZ nr wd sg lw hg fr to sn pl kd tg sa sb bn mt pa ob tb fo rv ro tk ov sh tu rk cb rlo rhi rl rg tf kn tl th tv) → va_S A s.heap H locs → lv_has ls 3 [(0, .ref (q 0)), (1, .int x1), (2, .int x2)] → k ob tb fo rv ro tk ov sh tu rk cb rlo rhi rl rg x1 x2 = some RES → W p l e rmX7_listed s m args below meth c H locs 0 0 (QI below args s A (dC, dI) (ty3 cI cJ cZ) RES.1 (wC q cI cJ cZ nr wd sg lw hg fr to sn pl kd tg sa sb bn mt pa RES.2.1 RES.2.2.1 RES.2.2.2.1 RES.2.2.2.2.1 RES.2.2.2.2.2.1 RES.2.2.2.2.2.2.1 RES.2.2.2.2.2.2.2.1 RES.2.2.2.2.2.2.2.2.1 RES.2.2.2.2.2.2.2.2.2.1 RES.2.2.2.2.2.2.2.2.2.2.1 RES.2.2.2.2.2.2.2.2.2.2.2.1 RES.2.2.2.2.2.2.2.2.2.2.2.2.1 RES.2.2.2.2.2.2.2.2.2.2.2.2.2.1 RES.2.2.2.2.2.2.2.2.2.2.2.2.2.2.1 RES.2.2.2.2.2.2.2.2.2.2.2.2.2.2.2 tf kn tl th tv)) (F0 m 16 ls [])
set_option maxHeartbeats 4000000 in
set_option maxRecDepth 100000 in
theorem zX7_listed_L16 {p : Program} {l : Launch} {e : Env} {s : State} {m : MethodId} {args : Array Value} {below : List Frame} {meth : Method} {c : Code} {A : Nat → Prop} {dC : Nat → ClassId} {dI : Nat → Nat → Nat} {q : Nat → Nat} {cI cJ cZ : ClassId} {nr : Int32} {wd : Nat → Int32} {sg : Nat → Int32} {lw : Nat → Int64} {hg : Nat → Int64} {fr : Nat → Int32} {to : Nat → Int32} {sn : Int32} {pl : Int32} {kd : Nat → Int32} {tg : Nat → Int32} {sa : Nat → Int32} {sb : Nat → Int32} {bn : Nat → Int32} {mt : Nat → Int32} {pa : Nat → Int32} {tf : Int32} {kn : Int32} {tl : Nat → Int64} {th : Nat → Int64} {tv : Nat → Int64}  (C0 : Cx p s m args meth c cX7_listed 3 (some .int) RX7 wsX7_listed A (dC, dI) (ty3 cI cJ cZ)) {RES : Int32 × (Int32) × (Int32) × (Int32) × (Nat → Int64) × (Int32) × (Int32) × (Nat → Int32) × (Nat → Int32) × (Nat → Int32) × (Int32) × (Int32) × (Int64) × (Int64) × (Nat → Int64) × (Nat → Int64)}  : ∀ n : Nat, iX7_listed_L16 p l e s m args below meth c A dC dI q cI cJ cZ nr wd sg lw hg fr to sn pl kd tg sa sb bn mt pa tf kn tl th tv RES (mX7_listed_L16 nr wd sg lw hg fr to sn pl kd tg sa sb bn mt pa n) := by
  have C1 := C0
  obtain ⟨hx, hb, hr, hml, hown, hts, hlocks, hN, hK, hA⟩ := C1
  intro n
  induction n with
  | zero =>
    intro ob tb fo rv ro tk ov sh tu rk cb rlo rhi rl rg x1 x2 H locs ls hP hD hS hl hres
    exact mi_0 hres
  | succ n ih =>
    intro ob tb fo rv ro tk ov sh tu rk cb rlo rhi rl rg x1 x2 H locs ls hP hD hS hl hres
    rw [mX7_listed_L16] at hres
    refine lv_iload_n hx hb dX7_listed_16 rfl (lv_at hl 2 rfl) ?_
    refine lv_aload_n hx hb dX7_listed_17 rfl (lv_at hl 0 rfl) ?_
    refine va_get (D := (dC, dI)) (ci := 7) (v := .ref (q 9)) (C := RX7) (T := TX7) (N := 7) hx hb hts hwX7_listed_RX7 hown hK hP 0 rfl rfl 2 (by decide) (hts _ mwX7_listed_2) (fun _ h9 => h9) rfl dX7_listed_18 ?_
    refine va_get (D := (dC, dI)) (ci := 4) (v := .int sn) (C := RX4) (T := TX4) (N := 9) hx hb hts hwX7_listed_RX4 hown hK hP 9 rfl rfl 6 (by decide) (hts _ mwX7_listed_3) (fun _ h9 => h9) rfl dX7_listed_21 ?_
    refine lv_icmp_ge (tgt := 52) hx hb dX7_listed_24 (by decide) (fun c_3 => ?_) (fun c_3 => ?_)
    · replace hres := mi_p c_3 hres
      refine lv_iconst (v := (-1 : Int32)) hx hb dX7_listed_52 (by decide) ?_
      obtain rfl := Option.some.inj hres
      exact ret_I (r := (-1 : Int32)) C0 rfl hP hD hS dX7_listed_53
    · replace hres := mi_n c_3 hres
      refine lv_aload_n hx hb dX7_listed_27 rfl (lv_at hl 0 rfl) ?_
      refine lv_iload_n hx hb dX7_listed_28 rfl (lv_at hl 2 rfl) ?_
      obtain ⟨u4, hu4, hres⟩ := mi_b hres
      refine call_I C0 (run_V C0 (rest := []) (kX7_isListed l dC dI q cI cJ cZ nr wd sg lw hg fr to sn pl kd tg sa sb bn mt pa ob tb fo rv ro tk ov sh tu rk cb rlo rhi rl rg tf kn tl th tv  x2 u4 hu4 _) (cwV 1 hts gX7_listed_X7_isListed rfl rfl rfl (by decide +kernel) ⟨by decide, by decide⟩) hP hD (ci := 7) (q0 := 0) rfl rfl rfl hl.1 rfl (Nat.le_of_ble_eq_true rfl) dX7_listed_29) hD hS (fun H locs hP hD hS => ?_)
      refine lv_if_eq (tgt := 46) hx hb dX7_listed_32 (by decide) (fun c_5 => ?_) (fun c_5 => ?_)
      · replace hres := mi_p c_5 hres
        refine lv_iinc (v := x2 + (1 : Int32)) (lv' := [(2, .int (x2 + (1 : Int32))), (0, .ref (q 0)), (1, .int x1)]) hx hb dX7_listed_46 hl (k := 2) rfl rfl (by decide) rfl (fun ls hl => ?_)
        refine lv_goto (tgt := 16) hx hb dX7_listed_49 (by decide) ?_
        exact ih ob tb fo rv ro tk ov sh tu rk cb rlo rhi rl rg x1 (x2 + (1 : Int32)) _ _ ls hP hD hS (lv_sub hl [1, 2, 0] rfl) hres
      · replace hres := mi_n c_5 hres
        refine lv_aload_n hx hb dX7_listed_35 rfl (lv_at hl 0 rfl) ?_
        refine lv_iload_n hx hb dX7_listed_36 rfl (lv_at hl 2 rfl) ?_
        obtain ⟨u6, hu6, hres⟩ := mi_b hres
        refine call_I C0 (run_V C0 (rest := []) (kX7_listedBefore l dC dI q cI cJ cZ nr wd sg lw hg fr to sn pl kd tg sa sb bn mt pa ob tb fo rv ro tk ov sh tu rk cb rlo rhi rl rg tf kn tl th tv  x2 u6 hu6 _) (cwV 1 hts gX7_listed_X7_listedBefore rfl rfl rfl (by decide +kernel) ⟨by decide, by decide⟩) hP hD (ci := 7) (q0 := 0) rfl rfl rfl hl.1 rfl (Nat.le_of_ble_eq_true rfl) dX7_listed_37) hD hS (fun H locs hP hD hS => ?_)
        refine lv_iload_n hx hb dX7_listed_40 rfl (lv_at hl 1 rfl) ?_
        refine lv_icmp_ne (tgt := 46) hx hb dX7_listed_41 (by decide) (fun c_7 => ?_) (fun c_7 => ?_)
        · replace hres := mi_n c_7 hres
          refine lv_iinc (v := x2 + (1 : Int32)) (lv' := [(2, .int (x2 + (1 : Int32))), (0, .ref (q 0)), (1, .int x1)]) hx hb dX7_listed_46 hl (k := 2) rfl rfl (by decide) rfl (fun ls hl => ?_)
          refine lv_goto (tgt := 16) hx hb dX7_listed_49 (by decide) ?_
          exact ih ob tb fo rv ro tk ov sh tu rk cb rlo rhi rl rg x1 (x2 + (1 : Int32)) _ _ ls hP hD hS (lv_sub hl [1, 2, 0] rfl) hres
        · replace hres := mi_p c_7 hres
          refine lv_iload_n hx hb dX7_listed_44 rfl (lv_at hl 2 rfl) ?_
          obtain rfl := Option.some.inj hres
          exact ret_I (r := x2) C0 rfl hP hD hS dX7_listed_45
set_option maxHeartbeats 4000000 in
set_option maxRecDepth 100000 in
theorem kX7_listed (l : Launch) (dC : Nat → ClassId) (dI : Nat → Nat → Nat) (q : Nat → Nat) (cI cJ cZ : ClassId) (nr : Int32) (wd : Nat → Int32) (sg : Nat → Int32) (lw : Nat → Int64) (hg : Nat → Int64) (fr : Nat → Int32) (to : Nat → Int32) (sn : Int32) (pl : Int32) (kd : Nat → Int32) (tg : Nat → Int32) (sa : Nat → Int32) (sb : Nat → Int32) (bn : Nat → Int32) (mt : Nat → Int32) (pa : Nat → Int32) (ob : Int32) (tb : Int32) (fo : Int32) (rv : Nat → Int64) (ro : Int32) (tk : Int32) (ov : Nat → Int32) (sh : Nat → Int32) (tu : Nat → Int32) (rk : Int32) (cb : Int32) (rlo : Int64) (rhi : Int64) (rl : Nat → Int64) (rg : Nat → Int64) (tf : Int32) (kn : Int32) (tl : Nat → Int64) (th : Nat → Int64) (tv : Nat → Int64) (x1 : Int32) (RES : Int32 × (Int32) × (Int32) × (Int32) × (Nat → Int64) × (Int32) × (Int32) × (Nat → Int32) × (Nat → Int32) × (Nat → Int32) × (Int32) × (Int32) × (Int64) × (Int64) × (Nat → Int64) × (Nat → Int64)) (hres : mX7_listed nr wd sg lw hg fr to sn pl kd tg sa sb bn mt pa ob tb fo rv ro tk ov sh tu rk cb rlo rhi rl rg x1 = some RES) : CtI l yX7_listed wsX7_listed rmX7_listed (dC, dI) (ty3 cI cJ cZ) (wC q cI cJ cZ nr wd sg lw hg fr to sn pl kd tg sa sb bn mt pa ob tb fo rv ro tk ov sh tu rk cb rlo rhi rl rg tf kn tl th tv) [.ref (q 0), .int x1] RES.1 (wC q cI cJ cZ nr wd sg lw hg fr to sn pl kd tg sa sb bn mt pa RES.2.1 RES.2.2.1 RES.2.2.2.1 RES.2.2.2.2.1 RES.2.2.2.2.2.1 RES.2.2.2.2.2.2.1 RES.2.2.2.2.2.2.2.1 RES.2.2.2.2.2.2.2.2.1 RES.2.2.2.2.2.2.2.2.2.1 RES.2.2.2.2.2.2.2.2.2.2.1 RES.2.2.2.2.2.2.2.2.2.2.2.1 RES.2.2.2.2.2.2.2.2.2.2.2.2.1 RES.2.2.2.2.2.2.2.2.2.2.2.2.2.1 RES.2.2.2.2.2.2.2.2.2.2.2.2.2.2.1 RES.2.2.2.2.2.2.2.2.2.2.2.2.2.2.2 tf kn tl th tv) := by
  intro sz
  refine ct_entry (cc := cX7_listed) (maxL := 3) (ret := some .int) (own := RX7) (by decide) rfl rfl (Nat.le_of_ble_eq_true rfl) (ll := [(0, .ref (q 0)), (1, .int x1)]) rfl ?_
  intro p e s m args below meth c hsz C0 _ hP hD ls hl
  have C1 := C0
  obtain ⟨hx, hb, hr, hml, hown, hts, hlocks, hN, hK, hA⟩ := C1
  have hS : va_S (va_A (wC q cI cJ cZ nr wd sg lw hg fr to sn pl kd tg sa sb bn mt pa ob tb fo rv ro tk ov sh tu rk cb rlo rhi rl rg tf kn tl th tv) sz) s.heap s.heap [] := va_S.rf
  generalize va_A (wC q cI cJ cZ nr wd sg lw hg fr to sn pl kd tg sa sb bn mt pa ob tb fo rv ro tk ov sh tu rk cb rlo rhi rl rg tf kn tl th tv) sz = A at C0 hD hA hS ⊢
  show W p l e rmX7_listed s m args below meth c s.heap [] 0 0 (QI below args s A (dC, dI) (ty3 cI cJ cZ) RES.1 (wC q cI cJ cZ nr wd sg lw hg fr to sn pl kd tg sa sb bn mt pa RES.2.1 RES.2.2.1 RES.2.2.2.1 RES.2.2.2.2.1 RES.2.2.2.2.2.1 RES.2.2.2.2.2.2.1 RES.2.2.2.2.2.2.2.1 RES.2.2.2.2.2.2.2.2.1 RES.2.2.2.2.2.2.2.2.2.1 RES.2.2.2.2.2.2.2.2.2.2.1 RES.2.2.2.2.2.2.2.2.2.2.2.1 RES.2.2.2.2.2.2.2.2.2.2.2.2.1 RES.2.2.2.2.2.2.2.2.2.2.2.2.2.1 RES.2.2.2.2.2.2.2.2.2.2.2.2.2.2.1 RES.2.2.2.2.2.2.2.2.2.2.2.2.2.2.2 tf kn tl th tv)) (F0 m 0 ls [])
  unfold mX7_listed at hres
  refine lv_aload_n hx hb dX7_listed_0 rfl (lv_at hl 0 rfl) ?_
  refine va_get (D := (dC, dI)) (ci := 7) (v := .ref (q 23)) (C := RX7) (T := TX7) (N := 7) hx hb hts hwX7_listed_RX7 hown hK hP 0 rfl rfl 5 (by decide) (hts _ mwX7_listed_0) (fun _ h9 => h9) rfl dX7_listed_1 ?_
  obtain ⟨u1, hu1, hres⟩ := mi_b hres
  refine call_V C0 (run_V C0 (rest := []) (kX2_learn l dC dI q cI cJ cZ nr wd sg lw hg fr to sn pl kd tg sa sb bn mt pa ob tb fo rv ro tk ov sh tu rk cb rlo rhi rl rg tf kn tl th tv   u1 hu1 _) (cwV 0 hts gX7_listed_X2_learn rfl rfl rfl (by decide +kernel) ⟨by decide, by decide⟩) hP hD (ci := 2) (q0 := 23) rfl rfl rfl hl.1 rfl (Nat.le_of_ble_eq_true rfl) dX7_listed_4) hD hS (fun H locs hP hD hS => ?_)
  refine lv_aload_n hx hb dX7_listed_7 rfl (lv_at hl 0 rfl) ?_
  refine va_get (D := (dC, dI)) (ci := 7) (v := .ref (q 19)) (C := RX7) (T := TX7) (N := 7) hx hb hts hwX7_listed_RX7 hown hK hP 0 rfl rfl 4 (by decide) (hts _ mwX7_listed_1) (fun _ h9 => h9) rfl dX7_listed_8 ?_
  obtain ⟨u2, hu2, hres⟩ := mi_b hres
  refine call_V C0 (run_V C0 (rest := []) (kX5_learn l dC dI q cI cJ cZ nr wd sg lw hg fr to sn pl kd tg sa sb bn mt pa ob tb fo rv ro tk ov sh tu u1.1 u1.2.1 u1.2.2.1 u1.2.2.2.1 u1.2.2.2.2.1 u1.2.2.2.2.2 tf kn tl th tv   u2 hu2 _) (cwV 0 hts gX7_listed_X5_learn rfl rfl rfl (by decide +kernel) ⟨by decide, by decide⟩) hP hD (ci := 5) (q0 := 19) rfl rfl rfl hl.1 rfl (Nat.le_of_ble_eq_true rfl) dX7_listed_11) hD hS (fun H locs hP hD hS => ?_)
  refine lv_iconst (v := (0 : Int32)) hx hb dX7_listed_14 (by decide) ?_
  refine lv_istore_n (lv' := [(2, .int (0 : Int32)), (0, .ref (q 0)), (1, .int x1)]) hx hb dX7_listed_15 rfl hl (by decide) rfl (fun ls hl => ?_)
  exact zX7_listed_L16 C0  FU u2.1 u2.2.1 u2.2.2.1 u2.2.2.2.1 u2.2.2.2.2.1 u2.2.2.2.2.2.1 u2.2.2.2.2.2.2.1 u2.2.2.2.2.2.2.2.1 u2.2.2.2.2.2.2.2.2 u1.1 u1.2.1 u1.2.2.1 u1.2.2.2.1 u1.2.2.2.2.1 u1.2.2.2.2.2 x1 (0 : Int32) _ _ ls hP hD hS (lv_sub hl [1, 2, 0] rfl) hres
/-! ### SumsOver.count(I)I -/
set_option maxRecDepth 20000 in
theorem hwX7_count_RX7 : ∀ w ∈ u_ws RX7 TX7 7, w ∈ wsX7_count := by decide +kernel
theorem mwX7_count_0 : (.fieldLink RX7 10 "SumsOver" "names" "LSumsOver$Names;" : Cond) ∈ wsX7_count := by decide +kernel
set_option maxRecDepth 20000 in
theorem hwX7_count_RX1 : ∀ w ∈ u_ws RX1 TX1 5, w ∈ wsX7_count := by decide +kernel
theorem mwX7_count_1 : (.fieldLink RX7 171 "SumsOver$Names" "signs" "[Z" : Cond) ∈ wsX7_count := by decide +kernel
theorem mwX7_count_2 : (.fieldLink RX7 162 "SumsOver$Names" "widths" "[I" : Cond) ∈ wsX7_count := by decide +kernel
theorem mwX7_count_3 : (.fieldLink RX7 26 "SumsOver" "steps" "LSumsOver$Steps;" : Cond) ∈ wsX7_count := by decide +kernel
set_option maxRecDepth 20000 in
theorem hwX7_count_RX4 : ∀ w ∈ u_ws RX4 TX4 9, w ∈ wsX7_count := by decide +kernel
theorem mwX7_count_4 : (.fieldLink RX7 87 "SumsOver$Steps" "size" "I" : Cond) ∈ wsX7_count := by decide +kernel
theorem mwX7_count_5 : (.fieldLink RX7 19 "SumsOver" "inputs" "LSumsOver$Inputs;" : Cond) ∈ wsX7_count := by decide +kernel
theorem mwX7_count_6 : (.fieldLink RX7 44 "SumsOver" "tally" "LSumsOver$Tally;" : Cond) ∈ wsX7_count := by decide +kernel
set_option maxRecDepth 20000 in
theorem hwX7_count_RX5 : ∀ w ∈ u_ws RX5 TX5 7, w ∈ wsX7_count := by decide +kernel
theorem mwX7_count_7 : (.fieldLink RX7 188 "SumsOver$Tally" "runsOver" "I" : Cond) ∈ wsX7_count := by decide +kernel
theorem mwX7_count_8 : (.fieldLink RX7 105 "SumsOver$Names" "nearest" "Z" : Cond) ∈ wsX7_count := by decide +kernel
def rmX7_count : Room := { frames := 6, cells := 0, slots := 0, locals := 149 }
def iX7_count_L58 (p : Program) (l : Launch) (e : Env) (s : State) (m : MethodId) (args : Array Value) (below : List Frame) (meth : Method) (c : Code) (A : Nat → Prop) (dC : Nat → ClassId) (dI : Nat → Nat → Nat) (q : Nat → Nat) (cI cJ cZ : ClassId) (nr : Int32) (wd : Nat → Int32) (sg : Nat → Int32) (lw : Nat → Int64) (hg : Nat → Int64) (fr : Nat → Int32) (to : Nat → Int32) (sn : Int32) (pl : Int32) (kd : Nat → Int32) (tg : Nat → Int32) (sa : Nat → Int32) (sb : Nat → Int32) (bn : Nat → Int32) (mt : Nat → Int32) (pa : Nat → Int32) (rk : Int32) (cb : Int32) (rlo : Int64) (rhi : Int64) (rl : Nat → Int64) (rg : Nat → Int64) (tf : Int32) (kn : Int32) (tl : Nat → Int64) (th : Nat → Int64) (tv : Nat → Int64)  (RES : Int32 × (Int32) × (Int32) × (Int32) × (Nat → Int64) × (Int32) × (Int32) × (Nat → Int32) × (Nat → Int32) × (Nat → Int32)) (k : (Int32) → (Int32) → (Int32) → (Nat → Int64) → (Int32) → (Int32) → (Nat → Int32) → (Nat → Int32) → (Nat → Int32) → (Int32) → Option (Int32 × (Int32) × (Int32) × (Int32) × (Nat → Int64) × (Int32) × (Int32) × (Nat → Int32) × (Nat → Int32) × (Nat → Int32))) : Prop := ∀ (ob : Int32) (tb : Int32) (fo : Int32) (rv : Nat → Int64) (ro : Int32) (tk : Int32) (ov : Nat → Int32) (sh : Nat → Int32) (tu : Nat → Int32) (x1 : Int32) (H : Heap) (locs : List Loc) (ls : Array Slot), va_P (dC, dI) vwCl (wC q cI cJ cZ nr wd sg lw hg fr to sn pl kd tg sa sb bn mt pa ob tb fo rv ro tk ov sh tu rk cb rlo rhi rl rg tf kn tl th tv) H → va_D A (wC q cI cJ cZ nr wd sg lw hg fr to sn pl kd tg sa sb bn mt pa ob tb fo rv ro tk ov sh tu rk cb rlo rhi rl rg tf kn tl th tv) → va_S A s.heap H locs → lv_has ls 2 [(0, .ref (q 0)), (1, .int x1)] → k ob tb fo rv ro tk ov sh tu x1 = some RES → W p l e rmX7_count s m args below meth c H locs 0 0 (QI below args s A (dC, dI) (ty3 cI cJ cZ) RES.1 (wC q cI cJ cZ nr wd sg lw hg fr to sn pl kd tg sa sb bn mt pa RES.2.1 RES.2.2.1 RES.2.2.2.1 RES.2.2.2.2.1 RES.2.2.2.2.2.1 RES.2.2.2.2.2.2.1 RES.2.2.2.2.2.2.2.1 RES.2.2.2.2.2.2.2.2.1 RES.2.2.2.2.2.2.2.2.2 rk cb rlo rhi rl rg tf kn tl th tv)) (F0 m 58 ls [])
set_option maxHeartbeats 4000000 in
set_option maxRecDepth 100000 in
theorem zX7_count_L58 {p : Program} {l : Launch} {e : Env} {s : State} {m : MethodId} {args : Array Value} {below : List Frame} {meth : Method} {c : Code} {A : Nat → Prop} {dC : Nat → ClassId} {dI : Nat → Nat → Nat} {q : Nat → Nat} {cI cJ cZ : ClassId} {nr : Int32} {wd : Nat → Int32} {sg : Nat → Int32} {lw : Nat → Int64} {hg : Nat → Int64} {fr : Nat → Int32} {to : Nat → Int32} {sn : Int32} {pl : Int32} {kd : Nat → Int32} {tg : Nat → Int32} {sa : Nat → Int32} {sb : Nat → Int32} {bn : Nat → Int32} {mt : Nat → Int32} {pa : Nat → Int32} {rk : Int32} {cb : Int32} {rlo : Int64} {rhi : Int64} {rl : Nat → Int64} {rg : Nat → Int64} {tf : Int32} {kn : Int32} {tl : Nat → Int64} {th : Nat → Int64} {tv : Nat → Int64}  (C0 : Cx p s m args meth c cX7_count 2 (some .int) RX7 wsX7_count A (dC, dI) (ty3 cI cJ cZ)) {RES : Int32 × (Int32) × (Int32) × (Int32) × (Nat → Int64) × (Int32) × (Int32) × (Nat → Int32) × (Nat → Int32) × (Nat → Int32)}  : iX7_count_L58 p l e s m args below meth c A dC dI q cI cJ cZ nr wd sg lw hg fr to sn pl kd tg sa sb bn mt pa rk cb rlo rhi rl rg tf kn tl th tv RES (mX7_count_L58 nr wd sg lw hg fr to sn pl kd tg sa sb bn mt pa) := by
  have C1 := C0
  obtain ⟨hx, hb, hr, hml, hown, hts, hlocks, hN, hK, hA⟩ := C1
  intro ob tb fo rv ro tk ov sh tu x1 H locs ls hP hD hS hl hres
  unfold mX7_count_L58 at hres
  refine lv_iload_n hx hb dX7_count_58 rfl (lv_at hl 1 rfl) ?_
  by_cases c_12 : x1 = (0 : Int32)
  · replace hres := mi_p c_12 hres
    refine sw_tab (tgt := 92) hx hb dX7_count_59 (by decide) (by have h9 := c_12 <;> (rw [h9]; decide)) ?_
    refine lv_aload_n hx hb dX7_count_92 rfl (lv_at hl 0 rfl) ?_
    refine va_get (D := (dC, dI)) (ci := 7) (v := .ref (q 9)) (C := RX7) (T := TX7) (N := 7) hx hb hts hwX7_count_RX7 hown hK hP 0 rfl rfl 2 (by decide) (hts _ mwX7_count_3) (fun _ h9 => h9) rfl dX7_count_93 ?_
    refine va_get (D := (dC, dI)) (ci := 4) (v := .int sn) (C := RX4) (T := TX4) (N := 9) hx hb hts hwX7_count_RX4 hown hK hP 9 rfl rfl 6 (by decide) (hts _ mwX7_count_4) (fun _ h9 => h9) rfl dX7_count_96 ?_
    obtain rfl := Option.some.inj hres
    exact ret_I (r := sn) C0 rfl hP hD hS dX7_count_99
  · replace hres := mi_n c_12 hres
    by_cases c_13 : x1 = (1 : Int32)
    · replace hres := mi_p c_13 hres
      refine sw_tab (tgt := 100) hx hb dX7_count_59 (by decide) (by have h9 := c_13 <;> (rw [h9]; decide)) ?_
      refine lv_aload_n hx hb dX7_count_100 rfl (lv_at hl 0 rfl) ?_
      refine va_get (D := (dC, dI)) (ci := 7) (v := .ref (q 6)) (C := RX7) (T := TX7) (N := 7) hx hb hts hwX7_count_RX7 hown hK hP 0 rfl rfl 1 (by decide) (hts _ mwX7_count_5) (fun _ h9 => h9) rfl dX7_count_101 ?_
      obtain ⟨u14, hu14, hres⟩ := mi_b hres
      refine call_I C0 (run_V C0 (rest := []) (kX0_runs l dC dI q cI cJ cZ nr wd sg lw hg fr to sn pl kd tg sa sb bn mt pa ob tb fo rv ro tk ov sh tu rk cb rlo rhi rl rg tf kn tl th tv   u14 hu14 _) (cwV 0 hts gX7_count_X0_runs rfl rfl rfl (by decide +kernel) ⟨by decide, by decide⟩) hP hD (ci := 0) (q0 := 6) rfl rfl rfl hl.1 rfl (Nat.le_of_ble_eq_true rfl) dX7_count_104) hD hS (fun H locs hP hD hS => ?_)
      obtain rfl := Option.some.inj hres
      exact ret_I (r := u14) C0 rfl hP hD hS dX7_count_107
    · replace hres := mi_n c_13 hres
      by_cases c_15 : x1 = (2 : Int32)
      · replace hres := mi_p c_15 hres
        refine sw_tab (tgt := 108) hx hb dX7_count_59 (by decide) (by have h9 := c_15 <;> (rw [h9]; decide)) ?_
        refine lv_aload_n hx hb dX7_count_108 rfl (lv_at hl 0 rfl) ?_
        refine va_get (D := (dC, dI)) (ci := 7) (v := .ref (q 19)) (C := RX7) (T := TX7) (N := 7) hx hb hts hwX7_count_RX7 hown hK hP 0 rfl rfl 4 (by decide) (hts _ mwX7_count_6) (fun _ h9 => h9) rfl dX7_count_109 ?_
        obtain ⟨u16, hu16, hres⟩ := mi_b hres
        refine call_V C0 (run_V C0 (rest := []) (kX5_learn l dC dI q cI cJ cZ nr wd sg lw hg fr to sn pl kd tg sa sb bn mt pa ob tb fo rv ro tk ov sh tu rk cb rlo rhi rl rg tf kn tl th tv   u16 hu16 _) (cwV 0 hts gX7_count_X5_learn rfl rfl rfl (by decide +kernel) ⟨by decide, by decide⟩) hP hD (ci := 5) (q0 := 19) rfl rfl rfl hl.1 rfl (Nat.le_of_ble_eq_true rfl) dX7_count_112) hD hS (fun H locs hP hD hS => ?_)
        refine lv_aload_n hx hb dX7_count_115 rfl (lv_at hl 0 rfl) ?_
        refine va_get (D := (dC, dI)) (ci := 7) (v := .ref (q 19)) (C := RX7) (T := TX7) (N := 7) hx hb hts hwX7_count_RX7 hown hK hP 0 rfl rfl 4 (by decide) (hts _ mwX7_count_6) (fun _ h9 => h9) rfl dX7_count_116 ?_
        refine va_get (D := (dC, dI)) (ci := 5) (v := .int u16.2.2.2.2.1) (C := RX5) (T := TX5) (N := 7) hx hb hts hwX7_count_RX5 hown hK hP 19 rfl rfl 3 (by decide) (hts _ mwX7_count_7) (fun _ h9 => h9) rfl dX7_count_119 ?_
        obtain rfl := Option.some.inj hres
        exact ret_I (r := u16.2.2.2.2.1) C0 rfl hP hD hS dX7_count_122
      · replace hres := mi_n c_15 hres
        by_cases c_17 : x1 = (3 : Int32)
        · replace hres := mi_p c_17 hres
          refine sw_tab (tgt := 123) hx hb dX7_count_59 (by decide) (by have h9 := c_17 <;> (rw [h9]; decide)) ?_
          refine lv_aload_n hx hb dX7_count_123 rfl (lv_at hl 0 rfl) ?_
          refine va_get (D := (dC, dI)) (ci := 7) (v := .ref (q 9)) (C := RX7) (T := TX7) (N := 7) hx hb hts hwX7_count_RX7 hown hK hP 0 rfl rfl 2 (by decide) (hts _ mwX7_count_3) (fun _ h9 => h9) rfl dX7_count_124 ?_
          obtain ⟨u18, hu18, hres⟩ := mi_b hres
          refine call_I C0 (run_V C0 (rest := []) (kX4_marks l dC dI q cI cJ cZ nr wd sg lw hg fr to sn pl kd tg sa sb bn mt pa ob tb fo rv ro tk ov sh tu rk cb rlo rhi rl rg tf kn tl th tv   u18 hu18 _) (cwV 0 hts gX7_count_X4_marks rfl rfl rfl (by decide +kernel) ⟨by decide, by decide⟩) hP hD (ci := 4) (q0 := 9) rfl rfl rfl hl.1 rfl (Nat.le_of_ble_eq_true rfl) dX7_count_127) hD hS (fun H locs hP hD hS => ?_)
          obtain rfl := Option.some.inj hres
          exact ret_I (r := u18) C0 rfl hP hD hS dX7_count_130
        · replace hres := mi_n c_17 hres
          by_cases c_19 : x1 = (4 : Int32)
          · replace hres := mi_p c_19 hres
            refine sw_tab (tgt := 131) hx hb dX7_count_59 (by decide) (by have h9 := c_19 <;> (rw [h9]; decide)) ?_
            refine lv_aload_n hx hb dX7_count_131 rfl (lv_at hl 0 rfl) ?_
            refine va_get (D := (dC, dI)) (ci := 7) (v := .ref (q 1)) (C := RX7) (T := TX7) (N := 7) hx hb hts hwX7_count_RX7 hown hK hP 0 rfl rfl 0 (by decide) (hts _ mwX7_count_0) (fun _ h9 => h9) rfl dX7_count_132 ?_
            refine va_get (D := (dC, dI)) (ci := 1) (v := .int nr) (C := RX1) (T := TX1) (N := 5) hx hb hts hwX7_count_RX1 hown hK hP 1 rfl rfl 4 (by decide) (hts _ mwX7_count_8) (fun _ h9 => h9) rfl dX7_count_135 ?_
            refine lv_if_eq (tgt := 145) hx hb dX7_count_138 (by decide) (fun c_20 => ?_) (fun c_20 => ?_)
            · replace hres := mi_p c_20 hres
              refine lv_iconst (v := (0 : Int32)) hx hb dX7_count_145 (by decide) ?_
              obtain rfl := Option.some.inj hres
              exact ret_I (r := (0 : Int32)) C0 rfl hP hD hS dX7_count_146
            · replace hres := mi_n c_20 hres
              refine lv_iconst (v := (1 : Int32)) hx hb dX7_count_141 (by decide) ?_
              refine lv_goto (tgt := 146) hx hb dX7_count_142 (by decide) ?_
              obtain rfl := Option.some.inj hres
              exact ret_I (r := (1 : Int32)) C0 rfl hP hD hS dX7_count_146
          · replace hres := mi_n c_19 hres
            refine sw_tab (tgt := 147) hx hb dX7_count_59 (by decide) (by
              have n_0 : ¬ Int32.toInt x1 = 0 := lv_neT (k := (0 : Int32)) (fun h9 => c_12 (h9)) (by decide)
              have n_1 : ¬ Int32.toInt x1 = 1 := lv_neT (k := (1 : Int32)) (fun h9 => c_13 (h9)) (by decide)
              have n_2 : ¬ Int32.toInt x1 = 2 := lv_neT (k := (2 : Int32)) (fun h9 => c_15 (h9)) (by decide)
              have n_3 : ¬ Int32.toInt x1 = 3 := lv_neT (k := (3 : Int32)) (fun h9 => c_17 (h9)) (by decide)
              have n_4 : ¬ Int32.toInt x1 = 4 := lv_neT (k := (4 : Int32)) (fun h9 => c_19 (h9)) (by decide)
              unfold swt
              split
              · decide
              · exfalso; omega) ?_
            refine lv_iconst (v := (-1 : Int32)) hx hb dX7_count_147 (by decide) ?_
            obtain rfl := Option.some.inj hres
            exact ret_I (r := (-1 : Int32)) C0 rfl hP hD hS dX7_count_148
set_option maxHeartbeats 4000000 in
set_option maxRecDepth 100000 in
theorem kX7_count (l : Launch) (dC : Nat → ClassId) (dI : Nat → Nat → Nat) (q : Nat → Nat) (cI cJ cZ : ClassId) (nr : Int32) (wd : Nat → Int32) (sg : Nat → Int32) (lw : Nat → Int64) (hg : Nat → Int64) (fr : Nat → Int32) (to : Nat → Int32) (sn : Int32) (pl : Int32) (kd : Nat → Int32) (tg : Nat → Int32) (sa : Nat → Int32) (sb : Nat → Int32) (bn : Nat → Int32) (mt : Nat → Int32) (pa : Nat → Int32) (ob : Int32) (tb : Int32) (fo : Int32) (rv : Nat → Int64) (ro : Int32) (tk : Int32) (ov : Nat → Int32) (sh : Nat → Int32) (tu : Nat → Int32) (rk : Int32) (cb : Int32) (rlo : Int64) (rhi : Int64) (rl : Nat → Int64) (rg : Nat → Int64) (tf : Int32) (kn : Int32) (tl : Nat → Int64) (th : Nat → Int64) (tv : Nat → Int64) (x1 : Int32) (RES : Int32 × (Int32) × (Int32) × (Int32) × (Nat → Int64) × (Int32) × (Int32) × (Nat → Int32) × (Nat → Int32) × (Nat → Int32)) (hres : mX7_count nr wd sg lw hg fr to sn pl kd tg sa sb bn mt pa ob tb fo rv ro tk ov sh tu x1 = some RES) : CtI l yX7_count wsX7_count rmX7_count (dC, dI) (ty3 cI cJ cZ) (wC q cI cJ cZ nr wd sg lw hg fr to sn pl kd tg sa sb bn mt pa ob tb fo rv ro tk ov sh tu rk cb rlo rhi rl rg tf kn tl th tv) [.ref (q 0), .int x1] RES.1 (wC q cI cJ cZ nr wd sg lw hg fr to sn pl kd tg sa sb bn mt pa RES.2.1 RES.2.2.1 RES.2.2.2.1 RES.2.2.2.2.1 RES.2.2.2.2.2.1 RES.2.2.2.2.2.2.1 RES.2.2.2.2.2.2.2.1 RES.2.2.2.2.2.2.2.2.1 RES.2.2.2.2.2.2.2.2.2 rk cb rlo rhi rl rg tf kn tl th tv) := by
  intro sz
  refine ct_entry (cc := cX7_count) (maxL := 2) (ret := some .int) (own := RX7) (by decide) rfl rfl (Nat.le_of_ble_eq_true rfl) (ll := [(0, .ref (q 0)), (1, .int x1)]) rfl ?_
  intro p e s m args below meth c hsz C0 _ hP hD ls hl
  have C1 := C0
  obtain ⟨hx, hb, hr, hml, hown, hts, hlocks, hN, hK, hA⟩ := C1
  have hS : va_S (va_A (wC q cI cJ cZ nr wd sg lw hg fr to sn pl kd tg sa sb bn mt pa ob tb fo rv ro tk ov sh tu rk cb rlo rhi rl rg tf kn tl th tv) sz) s.heap s.heap [] := va_S.rf
  generalize va_A (wC q cI cJ cZ nr wd sg lw hg fr to sn pl kd tg sa sb bn mt pa ob tb fo rv ro tk ov sh tu rk cb rlo rhi rl rg tf kn tl th tv) sz = A at C0 hD hA hS ⊢
  show W p l e rmX7_count s m args below meth c s.heap [] 0 0 (QI below args s A (dC, dI) (ty3 cI cJ cZ) RES.1 (wC q cI cJ cZ nr wd sg lw hg fr to sn pl kd tg sa sb bn mt pa RES.2.1 RES.2.2.1 RES.2.2.2.1 RES.2.2.2.2.1 RES.2.2.2.2.2.1 RES.2.2.2.2.2.2.1 RES.2.2.2.2.2.2.2.1 RES.2.2.2.2.2.2.2.2.1 RES.2.2.2.2.2.2.2.2.2 rk cb rlo rhi rl rg tf kn tl th tv)) (F0 m 0 ls [])
  unfold mX7_count at hres
  refine lv_iload_n hx hb dX7_count_0 rfl (lv_at hl 1 rfl) ?_
  refine lv_bipush (v := (10 : Int32)) hx hb dX7_count_1 (by decide) ?_
  refine lv_icmp_lt (tgt := 25) hx hb dX7_count_3 (by decide) (fun c_1 => ?_) (fun c_1 => ?_)
  · replace hres := mi_p c_1 hres
    refine lv_iload_n hx hb dX7_count_25 rfl (lv_at hl 1 rfl) ?_
    refine lv_bipush (v := (20 : Int32)) hx hb dX7_count_26 (by decide) ?_
    refine lv_icmp_lt (tgt := 58) hx hb dX7_count_28 (by decide) (fun c_2 => ?_) (fun c_2 => ?_)
    · replace hres := mi_p c_2 hres
      exact zX7_count_L58 C0  ob tb fo rv ro tk ov sh tu x1 _ _ ls hP hD hS (lv_sub hl [0, 1] rfl) hres
    · replace hres := mi_n c_2 hres
      refine lv_iload_n hx hb dX7_count_31 rfl (lv_at hl 1 rfl) ?_
      refine lv_bipush (v := (26 : Int32)) hx hb dX7_count_32 (by decide) ?_
      refine lv_icmp_ge (tgt := 58) hx hb dX7_count_34 (by decide) (fun c_3 => ?_) (fun c_3 => ?_)
      · replace hres := mi_p c_3 hres
        exact zX7_count_L58 C0  ob tb fo rv ro tk ov sh tu x1 _ _ ls hP hD hS (lv_sub hl [0, 1] rfl) hres
      · replace hres := mi_n c_3 hres
        refine lv_aload_n hx hb dX7_count_37 rfl (lv_at hl 0 rfl) ?_
        refine va_get (D := (dC, dI)) (ci := 7) (v := .ref (q 1)) (C := RX7) (T := TX7) (N := 7) hx hb hts hwX7_count_RX7 hown hK hP 0 rfl rfl 0 (by decide) (hts _ mwX7_count_0) (fun _ h9 => h9) rfl dX7_count_38 ?_
        refine va_get (D := (dC, dI)) (ci := 1) (v := .ref (q 3)) (C := RX1) (T := TX1) (N := 5) hx hb hts hwX7_count_RX1 hown hK hP 1 rfl rfl 1 (by decide) (hts _ mwX7_count_1) (fun _ h9 => h9) rfl dX7_count_41 ?_
        refine lv_iload_n hx hb dX7_count_44 rfl (lv_at hl 1 rfl) ?_
        refine lv_bipush (v := (20 : Int32)) hx hb dX7_count_45 (by decide) ?_
        refine lv_isub hx hb dX7_count_47 ?_
        obtain ⟨g_4, hres⟩ := mi_g hres
        refine va_zald (D := (dC, dI)) (cl := vwCl) hx hb hK hP 3 2 rfl rfl g_4 dX7_count_48 ?_
        refine lv_if_eq (tgt := 56) hx hb dX7_count_49 (by decide) (fun c_5 => ?_) (fun c_5 => ?_)
        · replace hres := mi_p c_5 hres
          refine lv_iconst (v := (0 : Int32)) hx hb dX7_count_56 (by decide) ?_
          obtain rfl := Option.some.inj hres
          exact ret_I (r := (0 : Int32)) C0 rfl hP hD hS dX7_count_57
        · replace hres := mi_n c_5 hres
          refine lv_iconst (v := (1 : Int32)) hx hb dX7_count_52 (by decide) ?_
          refine lv_goto (tgt := 57) hx hb dX7_count_53 (by decide) ?_
          obtain rfl := Option.some.inj hres
          exact ret_I (r := (1 : Int32)) C0 rfl hP hD hS dX7_count_57
  · replace hres := mi_n c_1 hres
    refine lv_iload_n hx hb dX7_count_6 rfl (lv_at hl 1 rfl) ?_
    refine lv_bipush (v := (16 : Int32)) hx hb dX7_count_7 (by decide) ?_
    refine lv_icmp_ge (tgt := 25) hx hb dX7_count_9 (by decide) (fun c_6 => ?_) (fun c_6 => ?_)
    · replace hres := mi_p c_6 hres
      refine lv_iload_n hx hb dX7_count_25 rfl (lv_at hl 1 rfl) ?_
      refine lv_bipush (v := (20 : Int32)) hx hb dX7_count_26 (by decide) ?_
      refine lv_icmp_lt (tgt := 58) hx hb dX7_count_28 (by decide) (fun c_7 => ?_) (fun c_7 => ?_)
      · replace hres := mi_p c_7 hres
        exact zX7_count_L58 C0  ob tb fo rv ro tk ov sh tu x1 _ _ ls hP hD hS (lv_sub hl [0, 1] rfl) hres
      · replace hres := mi_n c_7 hres
        refine lv_iload_n hx hb dX7_count_31 rfl (lv_at hl 1 rfl) ?_
        refine lv_bipush (v := (26 : Int32)) hx hb dX7_count_32 (by decide) ?_
        refine lv_icmp_ge (tgt := 58) hx hb dX7_count_34 (by decide) (fun c_8 => ?_) (fun c_8 => ?_)
        · replace hres := mi_p c_8 hres
          exact zX7_count_L58 C0  ob tb fo rv ro tk ov sh tu x1 _ _ ls hP hD hS (lv_sub hl [0, 1] rfl) hres
        · replace hres := mi_n c_8 hres
          refine lv_aload_n hx hb dX7_count_37 rfl (lv_at hl 0 rfl) ?_
          refine va_get (D := (dC, dI)) (ci := 7) (v := .ref (q 1)) (C := RX7) (T := TX7) (N := 7) hx hb hts hwX7_count_RX7 hown hK hP 0 rfl rfl 0 (by decide) (hts _ mwX7_count_0) (fun _ h9 => h9) rfl dX7_count_38 ?_
          refine va_get (D := (dC, dI)) (ci := 1) (v := .ref (q 3)) (C := RX1) (T := TX1) (N := 5) hx hb hts hwX7_count_RX1 hown hK hP 1 rfl rfl 1 (by decide) (hts _ mwX7_count_1) (fun _ h9 => h9) rfl dX7_count_41 ?_
          refine lv_iload_n hx hb dX7_count_44 rfl (lv_at hl 1 rfl) ?_
          refine lv_bipush (v := (20 : Int32)) hx hb dX7_count_45 (by decide) ?_
          refine lv_isub hx hb dX7_count_47 ?_
          obtain ⟨g_9, hres⟩ := mi_g hres
          refine va_zald (D := (dC, dI)) (cl := vwCl) hx hb hK hP 3 2 rfl rfl g_9 dX7_count_48 ?_
          refine lv_if_eq (tgt := 56) hx hb dX7_count_49 (by decide) (fun c_10 => ?_) (fun c_10 => ?_)
          · replace hres := mi_p c_10 hres
            refine lv_iconst (v := (0 : Int32)) hx hb dX7_count_56 (by decide) ?_
            obtain rfl := Option.some.inj hres
            exact ret_I (r := (0 : Int32)) C0 rfl hP hD hS dX7_count_57
          · replace hres := mi_n c_10 hres
            refine lv_iconst (v := (1 : Int32)) hx hb dX7_count_52 (by decide) ?_
            refine lv_goto (tgt := 57) hx hb dX7_count_53 (by decide) ?_
            obtain rfl := Option.some.inj hres
            exact ret_I (r := (1 : Int32)) C0 rfl hP hD hS dX7_count_57
    · replace hres := mi_n c_6 hres
      refine lv_aload_n hx hb dX7_count_12 rfl (lv_at hl 0 rfl) ?_
      refine va_get (D := (dC, dI)) (ci := 7) (v := .ref (q 1)) (C := RX7) (T := TX7) (N := 7) hx hb hts hwX7_count_RX7 hown hK hP 0 rfl rfl 0 (by decide) (hts _ mwX7_count_0) (fun _ h9 => h9) rfl dX7_count_13 ?_
      refine va_get (D := (dC, dI)) (ci := 1) (v := .ref (q 2)) (C := RX1) (T := TX1) (N := 5) hx hb hts hwX7_count_RX1 hown hK hP 1 rfl rfl 0 (by decide) (hts _ mwX7_count_2) (fun _ h9 => h9) rfl dX7_count_16 ?_
      refine lv_iload_n hx hb dX7_count_19 rfl (lv_at hl 1 rfl) ?_
      refine lv_bipush (v := (10 : Int32)) hx hb dX7_count_20 (by decide) ?_
      refine lv_isub hx hb dX7_count_22 ?_
      obtain ⟨g_11, hres⟩ := mi_g hres
      refine va_iald (D := (dC, dI)) (cl := vwCl) hx hb hK hP 2 0 rfl rfl g_11 dX7_count_23 ?_
      obtain rfl := Option.some.inj hres
      exact ret_I (r := (wd (Int32.toNatClampNeg (x1 - (10 : Int32))))) C0 rfl hP hD hS dX7_count_24
